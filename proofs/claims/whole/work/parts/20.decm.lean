theorem dX6_init_0 : decode cX6_init 0 = .ok (.aload_n 0, 1) := by decide +kernel
theorem dX6_init_1 : decode cX6_init 1 = .ok (.invokespecial 1, 3) := by decide +kernel
theorem dX6_init_4 : decode cX6_init 4 = .ok (.aload_n 0, 1) := by decide +kernel
theorem dX6_init_5 : decode cX6_init 5 = .ok (.sipush 713, 3) := by decide +kernel
theorem dX6_init_8 : decode cX6_init 8 = .ok (.newarray .int, 2) := by decide +kernel
theorem dX6_init_10 : decode cX6_init 10 = .ok (.putfield 7, 3) := by decide +kernel
theorem dX6_init_13 : decode cX6_init 13 = .ok (.aload_n 0, 1) := by decide +kernel
theorem dX6_init_14 : decode cX6_init 14 = .ok (.sipush 713, 3) := by decide +kernel
theorem dX6_init_17 : decode cX6_init 17 = .ok (.newarray .int, 2) := by decide +kernel
theorem dX6_init_19 : decode cX6_init 19 = .ok (.putfield 13, 3) := by decide +kernel
theorem dX6_init_22 : decode cX6_init 22 = .ok (.aload_n 0, 1) := by decide +kernel
theorem dX6_init_23 : decode cX6_init 23 = .ok (.sipush 713, 3) := by decide +kernel
theorem dX6_init_26 : decode cX6_init 26 = .ok (.newarray .int, 2) := by decide +kernel
theorem dX6_init_28 : decode cX6_init 28 = .ok (.putfield 16, 3) := by decide +kernel
theorem dX6_init_31 : decode cX6_init 31 = .ok (.aload_n 0, 1) := by decide +kernel
theorem dX6_init_32 : decode cX6_init 32 = .ok (.sipush 713, 3) := by decide +kernel
theorem dX6_init_35 : decode cX6_init 35 = .ok (.newarray .int, 2) := by decide +kernel
theorem dX6_init_37 : decode cX6_init 37 = .ok (.putfield 19, 3) := by decide +kernel
theorem dX6_init_40 : decode cX6_init 40 = .ok (.aload_n 0, 1) := by decide +kernel
theorem dX6_init_41 : decode cX6_init 41 = .ok (.sipush 2852, 3) := by decide +kernel
theorem dX6_init_44 : decode cX6_init 44 = .ok (.newarray .int, 2) := by decide +kernel
theorem dX6_init_46 : decode cX6_init 46 = .ok (.putfield 22, 3) := by decide +kernel
theorem dX6_init_49 : decode cX6_init 49 = .ok (.aload_n 0, 1) := by decide +kernel
theorem dX6_init_50 : decode cX6_init 50 = .ok (.bipush 60, 2) := by decide +kernel
theorem dX6_init_52 : decode cX6_init 52 = .ok (.newarray .int, 2) := by decide +kernel
theorem dX6_init_54 : decode cX6_init 54 = .ok (.putfield 25, 3) := by decide +kernel
theorem dX6_init_57 : decode cX6_init 57 = .ok (.aload_n 0, 1) := by decide +kernel
theorem dX6_init_58 : decode cX6_init 58 = .ok (.bipush (-5), 2) := by decide +kernel
theorem dX6_init_60 : decode cX6_init 60 = .ok (.putfield 28, 3) := by decide +kernel
theorem dX6_init_63 : decode cX6_init 63 = .ok (.aload_n 0, 1) := by decide +kernel
theorem dX6_init_64 : decode cX6_init 64 = .ok (.bipush (-5), 2) := by decide +kernel
theorem dX6_init_66 : decode cX6_init 66 = .ok (.putfield 32, 3) := by decide +kernel
theorem dX6_init_69 : decode cX6_init 69 = .ok (.aload_n 0, 1) := by decide +kernel
theorem dX6_init_70 : decode cX6_init 70 = .ok (.iconst 5, 1) := by decide +kernel
theorem dX6_init_71 : decode cX6_init 71 = .ok (.newarray .int, 2) := by decide +kernel
theorem dX6_init_73 : decode cX6_init 73 = .ok (.putfield 35, 3) := by decide +kernel
theorem dX6_init_76 : decode cX6_init 76 = .ok (.aload_n 0, 1) := by decide +kernel
theorem dX6_init_77 : decode cX6_init 77 = .ok (.getfield 7, 3) := by decide +kernel
theorem dX6_init_80 : decode cX6_init 80 = .ok (.iconst 1, 1) := by decide +kernel
theorem dX6_init_81 : decode cX6_init 81 = .ok (.bipush 10, 2) := by decide +kernel
theorem dX6_init_83 : decode cX6_init 83 = .ok (.iastore, 1) := by decide +kernel
theorem dX6_init_84 : decode cX6_init 84 = .ok (.aload_n 0, 1) := by decide +kernel
theorem dX6_init_85 : decode cX6_init 85 = .ok (.getfield 7, 3) := by decide +kernel
theorem dX6_init_88 : decode cX6_init 88 = .ok (.iconst 2, 1) := by decide +kernel
theorem dX6_init_89 : decode cX6_init 89 = .ok (.iconst 2, 1) := by decide +kernel
theorem dX6_init_90 : decode cX6_init 90 = .ok (.iastore, 1) := by decide +kernel
theorem dX6_init_91 : decode cX6_init 91 = .ok (.aload_n 0, 1) := by decide +kernel
theorem dX6_init_92 : decode cX6_init 92 = .ok (.getfield 7, 3) := by decide +kernel
theorem dX6_init_95 : decode cX6_init 95 = .ok (.iconst 3, 1) := by decide +kernel
theorem dX6_init_96 : decode cX6_init 96 = .ok (.bipush 7, 2) := by decide +kernel
theorem dX6_init_98 : decode cX6_init 98 = .ok (.iastore, 1) := by decide +kernel
theorem dX6_init_99 : decode cX6_init 99 = .ok (.aload_n 0, 1) := by decide +kernel
theorem dX6_init_100 : decode cX6_init 100 = .ok (.getfield 7, 3) := by decide +kernel
theorem dX6_init_103 : decode cX6_init 103 = .ok (.iconst 4, 1) := by decide +kernel
theorem dX6_init_104 : decode cX6_init 104 = .ok (.iconst 5, 1) := by decide +kernel
theorem dX6_init_105 : decode cX6_init 105 = .ok (.iastore, 1) := by decide +kernel
theorem dX6_init_106 : decode cX6_init 106 = .ok (.return_, 1) := by decide +kernel
theorem dX6_in_0 : decode cX6_in 0 = .ok (.iload_n 0, 1) := by decide +kernel
theorem dX6_in_1 : decode cX6_in 1 = .ok (.iload_n 1, 1) := by decide +kernel
theorem dX6_in_2 : decode cX6_in 2 = .ok (.if_icmp .lt 12, 3) := by decide +kernel
theorem dX6_in_5 : decode cX6_in 5 = .ok (.iload_n 0, 1) := by decide +kernel
theorem dX6_in_6 : decode cX6_in 6 = .ok (.iload_n 2, 1) := by decide +kernel
theorem dX6_in_7 : decode cX6_in 7 = .ok (.if_icmp .gt 7, 3) := by decide +kernel
theorem dX6_in_10 : decode cX6_in 10 = .ok (.iconst 1, 1) := by decide +kernel
theorem dX6_in_11 : decode cX6_in 11 = .ok (.goto 4, 3) := by decide +kernel
theorem dX6_in_14 : decode cX6_in 14 = .ok (.iconst 0, 1) := by decide +kernel
theorem dX6_in_15 : decode cX6_in 15 = .ok (.ireturn, 1) := by decide +kernel
theorem dX6_isCustomer_0 : decode cX6_isCustomer 0 = .ok (.iload_n 0, 1) := by decide +kernel
theorem dX6_isCustomer_1 : decode cX6_isCustomer 1 = .ok (.iconst 0, 1) := by decide +kernel
theorem dX6_isCustomer_2 : decode cX6_isCustomer 2 = .ok (.bipush 7, 2) := by decide +kernel
theorem dX6_isCustomer_4 : decode cX6_isCustomer 4 = .ok (.invokestatic 38, 3) := by decide +kernel
theorem dX6_isCustomer_7 : decode cX6_isCustomer 7 = .ok (.ireturn, 1) := by decide +kernel
theorem dX6_isBill_0 : decode cX6_isBill 0 = .ok (.iload_n 1, 1) := by decide +kernel
theorem dX6_isBill_1 : decode cX6_isBill 1 = .ok (.iconst 0, 1) := by decide +kernel
theorem dX6_isBill_2 : decode cX6_isBill 2 = .ok (.aload_n 0, 1) := by decide +kernel
theorem dX6_isBill_3 : decode cX6_isBill 3 = .ok (.getfield 7, 3) := by decide +kernel
theorem dX6_isBill_6 : decode cX6_isBill 6 = .ok (.bipush 6, 2) := by decide +kernel
theorem dX6_isBill_8 : decode cX6_isBill 8 = .ok (.iaload, 1) := by decide +kernel
theorem dX6_isBill_9 : decode cX6_isBill 9 = .ok (.iconst 1, 1) := by decide +kernel
theorem dX6_isBill_10 : decode cX6_isBill 10 = .ok (.isub, 1) := by decide +kernel
theorem dX6_isBill_11 : decode cX6_isBill 11 = .ok (.invokestatic 38, 3) := by decide +kernel
theorem dX6_isBill_14 : decode cX6_isBill 14 = .ok (.ireturn, 1) := by decide +kernel
theorem dX6_of_0 : decode cX6_of 0 = .ok (.sipush 233, 3) := by decide +kernel
theorem dX6_of_3 : decode cX6_of 3 = .ok (.bipush 12, 2) := by decide +kernel
theorem dX6_of_5 : decode cX6_of 5 = .ok (.iload_n 0, 1) := by decide +kernel
theorem dX6_of_6 : decode cX6_of 6 = .ok (.imul, 1) := by decide +kernel
theorem dX6_of_7 : decode cX6_of 7 = .ok (.iadd, 1) := by decide +kernel
theorem dX6_of_8 : decode cX6_of 8 = .ok (.iload_n 1, 1) := by decide +kernel
theorem dX6_of_9 : decode cX6_of 9 = .ok (.iadd, 1) := by decide +kernel
theorem dX6_of_10 : decode cX6_of 10 = .ok (.ireturn, 1) := by decide +kernel
theorem dX6_looks_0 : decode cX6_looks 0 = .ok (.iconst 0, 1) := by decide +kernel
theorem dX6_looks_1 : decode cX6_looks 1 = .ok (.istore_n 1, 1) := by decide +kernel
theorem dX6_looks_2 : decode cX6_looks 2 = .ok (.iload_n 1, 1) := by decide +kernel
theorem dX6_looks_3 : decode cX6_looks 3 = .ok (.sipush 713, 3) := by decide +kernel
theorem dX6_looks_6 : decode cX6_looks 6 = .ok (.if_icmp .ge 21, 3) := by decide +kernel
theorem dX6_looks_9 : decode cX6_looks 9 = .ok (.aload_n 0, 1) := by decide +kernel
theorem dX6_looks_10 : decode cX6_looks 10 = .ok (.getfield 16, 3) := by decide +kernel
theorem dX6_looks_13 : decode cX6_looks 13 = .ok (.iload_n 1, 1) := by decide +kernel
theorem dX6_looks_14 : decode cX6_looks 14 = .ok (.aload_n 0, 1) := by decide +kernel
theorem dX6_looks_15 : decode cX6_looks 15 = .ok (.getfield 7, 3) := by decide +kernel
theorem dX6_looks_18 : decode cX6_looks 18 = .ok (.iload_n 1, 1) := by decide +kernel
theorem dX6_looks_19 : decode cX6_looks 19 = .ok (.iaload, 1) := by decide +kernel
theorem dX6_looks_20 : decode cX6_looks 20 = .ok (.iastore, 1) := by decide +kernel
theorem dX6_looks_21 : decode cX6_looks 21 = .ok (.iinc 1 1, 3) := by decide +kernel
theorem dX6_looks_24 : decode cX6_looks 24 = .ok (.goto (-22), 3) := by decide +kernel
theorem dX6_looks_27 : decode cX6_looks 27 = .ok (.return_, 1) := by decide +kernel
theorem dX6_records_0 : decode cX6_records 0 = .ok (.aload_n 0, 1) := by decide +kernel
theorem dX6_records_1 : decode cX6_records 1 = .ok (.getfield 42, 3) := by decide +kernel
theorem dX6_records_4 : decode cX6_records 4 = .ok (.iconst 4, 1) := by decide +kernel
theorem dX6_records_5 : decode cX6_records 5 = .ok (.if_icmp .ne 44, 3) := by decide +kernel
theorem dX6_records_8 : decode cX6_records 8 = .ok (.iconst 0, 1) := by decide +kernel
theorem dX6_records_9 : decode cX6_records 9 = .ok (.istore_n 1, 1) := by decide +kernel
theorem dX6_records_10 : decode cX6_records 10 = .ok (.iload_n 1, 1) := by decide +kernel
theorem dX6_records_11 : decode cX6_records 11 = .ok (.sipush 2139, 3) := by decide +kernel
theorem dX6_records_14 : decode cX6_records 14 = .ok (.if_icmp .ge 25, 3) := by decide +kernel
theorem dX6_records_17 : decode cX6_records 17 = .ok (.aload_n 0, 1) := by decide +kernel
theorem dX6_records_18 : decode cX6_records 18 = .ok (.getfield 22, 3) := by decide +kernel
theorem dX6_records_21 : decode cX6_records 21 = .ok (.iload_n 1, 1) := by decide +kernel
theorem dX6_records_22 : decode cX6_records 22 = .ok (.aload_n 0, 1) := by decide +kernel
theorem dX6_records_23 : decode cX6_records 23 = .ok (.getfield 22, 3) := by decide +kernel
theorem dX6_records_26 : decode cX6_records 26 = .ok (.sipush 713, 3) := by decide +kernel
theorem dX6_records_29 : decode cX6_records 29 = .ok (.iload_n 1, 1) := by decide +kernel
theorem dX6_records_30 : decode cX6_records 30 = .ok (.iadd, 1) := by decide +kernel
theorem dX6_records_31 : decode cX6_records 31 = .ok (.iaload, 1) := by decide +kernel
theorem dX6_records_32 : decode cX6_records 32 = .ok (.iastore, 1) := by decide +kernel
theorem dX6_records_33 : decode cX6_records 33 = .ok (.iinc 1 1, 3) := by decide +kernel
theorem dX6_records_36 : decode cX6_records 36 = .ok (.goto (-26), 3) := by decide +kernel
theorem dX6_records_39 : decode cX6_records 39 = .ok (.aload_n 0, 1) := by decide +kernel
theorem dX6_records_40 : decode cX6_records 40 = .ok (.dup, 1) := by decide +kernel
theorem dX6_records_41 : decode cX6_records 41 = .ok (.getfield 42, 3) := by decide +kernel
theorem dX6_records_44 : decode cX6_records 44 = .ok (.iconst 1, 1) := by decide +kernel
theorem dX6_records_45 : decode cX6_records 45 = .ok (.isub, 1) := by decide +kernel
theorem dX6_records_46 : decode cX6_records 46 = .ok (.putfield 42, 3) := by decide +kernel
theorem dX6_records_49 : decode cX6_records 49 = .ok (.iconst 0, 1) := by decide +kernel
theorem dX6_records_50 : decode cX6_records 50 = .ok (.istore_n 1, 1) := by decide +kernel
theorem dX6_records_51 : decode cX6_records 51 = .ok (.iload_n 1, 1) := by decide +kernel
theorem dX6_records_52 : decode cX6_records 52 = .ok (.sipush 713, 3) := by decide +kernel
theorem dX6_records_55 : decode cX6_records 55 = .ok (.if_icmp .ge 30, 3) := by decide +kernel
theorem dX6_records_58 : decode cX6_records 58 = .ok (.aload_n 0, 1) := by decide +kernel
theorem dX6_records_59 : decode cX6_records 59 = .ok (.getfield 22, 3) := by decide +kernel
theorem dX6_records_62 : decode cX6_records 62 = .ok (.sipush 713, 3) := by decide +kernel
theorem dX6_records_65 : decode cX6_records 65 = .ok (.aload_n 0, 1) := by decide +kernel
theorem dX6_records_66 : decode cX6_records 66 = .ok (.getfield 42, 3) := by decide +kernel
theorem dX6_records_69 : decode cX6_records 69 = .ok (.imul, 1) := by decide +kernel
theorem dX6_records_70 : decode cX6_records 70 = .ok (.iload_n 1, 1) := by decide +kernel
theorem dX6_records_71 : decode cX6_records 71 = .ok (.iadd, 1) := by decide +kernel
theorem dX6_records_72 : decode cX6_records 72 = .ok (.aload_n 0, 1) := by decide +kernel
theorem dX6_records_73 : decode cX6_records 73 = .ok (.getfield 16, 3) := by decide +kernel
theorem dX6_records_76 : decode cX6_records 76 = .ok (.iload_n 1, 1) := by decide +kernel
theorem dX6_records_77 : decode cX6_records 77 = .ok (.iaload, 1) := by decide +kernel
theorem dX6_records_78 : decode cX6_records 78 = .ok (.iastore, 1) := by decide +kernel
theorem dX6_records_79 : decode cX6_records 79 = .ok (.iinc 1 1, 3) := by decide +kernel
theorem dX6_records_82 : decode cX6_records 82 = .ok (.goto (-31), 3) := by decide +kernel
theorem dX6_records_85 : decode cX6_records 85 = .ok (.aload_n 0, 1) := by decide +kernel
theorem dX6_records_86 : decode cX6_records 86 = .ok (.dup, 1) := by decide +kernel
theorem dX6_records_87 : decode cX6_records 87 = .ok (.getfield 42, 3) := by decide +kernel
theorem dX6_records_90 : decode cX6_records 90 = .ok (.iconst 1, 1) := by decide +kernel
theorem dX6_records_91 : decode cX6_records 91 = .ok (.iadd, 1) := by decide +kernel
theorem dX6_records_92 : decode cX6_records 92 = .ok (.putfield 42, 3) := by decide +kernel
theorem dX6_records_95 : decode cX6_records 95 = .ok (.return_, 1) := by decide +kernel
theorem dX6_know_0 : decode cX6_know 0 = .ok (.aload_n 0, 1) := by decide +kernel
theorem dX6_know_1 : decode cX6_know 1 = .ok (.invokevirtual 45, 3) := by decide +kernel
theorem dX6_know_4 : decode cX6_know 4 = .ok (.aload_n 0, 1) := by decide +kernel
theorem dX6_know_5 : decode cX6_know 5 = .ok (.invokevirtual 48, 3) := by decide +kernel
theorem dX6_know_8 : decode cX6_know 8 = .ok (.return_, 1) := by decide +kernel
theorem dX6_putAside_0 : decode cX6_putAside 0 = .ok (.iconst 0, 1) := by decide +kernel
theorem dX6_putAside_1 : decode cX6_putAside 1 = .ok (.istore_n 1, 1) := by decide +kernel
theorem dX6_putAside_2 : decode cX6_putAside 2 = .ok (.iload_n 1, 1) := by decide +kernel
theorem dX6_putAside_3 : decode cX6_putAside 3 = .ok (.sipush 713, 3) := by decide +kernel
theorem dX6_putAside_6 : decode cX6_putAside 6 = .ok (.if_icmp .ge 21, 3) := by decide +kernel
theorem dX6_putAside_9 : decode cX6_putAside 9 = .ok (.aload_n 0, 1) := by decide +kernel
theorem dX6_putAside_10 : decode cX6_putAside 10 = .ok (.getfield 13, 3) := by decide +kernel
theorem dX6_putAside_13 : decode cX6_putAside 13 = .ok (.iload_n 1, 1) := by decide +kernel
theorem dX6_putAside_14 : decode cX6_putAside 14 = .ok (.aload_n 0, 1) := by decide +kernel
theorem dX6_putAside_15 : decode cX6_putAside 15 = .ok (.getfield 7, 3) := by decide +kernel
theorem dX6_putAside_18 : decode cX6_putAside 18 = .ok (.iload_n 1, 1) := by decide +kernel
theorem dX6_putAside_19 : decode cX6_putAside 19 = .ok (.iaload, 1) := by decide +kernel
theorem dX6_putAside_20 : decode cX6_putAside 20 = .ok (.iastore, 1) := by decide +kernel
theorem dX6_putAside_21 : decode cX6_putAside 21 = .ok (.iinc 1 1, 3) := by decide +kernel
theorem dX6_putAside_24 : decode cX6_putAside 24 = .ok (.goto (-22), 3) := by decide +kernel
theorem dX6_putAside_27 : decode cX6_putAside 27 = .ok (.return_, 1) := by decide +kernel
theorem dX6_putBack_0 : decode cX6_putBack 0 = .ok (.iconst 0, 1) := by decide +kernel
theorem dX6_putBack_1 : decode cX6_putBack 1 = .ok (.istore_n 1, 1) := by decide +kernel
theorem dX6_putBack_2 : decode cX6_putBack 2 = .ok (.iload_n 1, 1) := by decide +kernel
theorem dX6_putBack_3 : decode cX6_putBack 3 = .ok (.sipush 713, 3) := by decide +kernel
theorem dX6_putBack_6 : decode cX6_putBack 6 = .ok (.if_icmp .ge 21, 3) := by decide +kernel
theorem dX6_putBack_9 : decode cX6_putBack 9 = .ok (.aload_n 0, 1) := by decide +kernel
theorem dX6_putBack_10 : decode cX6_putBack 10 = .ok (.getfield 7, 3) := by decide +kernel
theorem dX6_putBack_13 : decode cX6_putBack 13 = .ok (.iload_n 1, 1) := by decide +kernel
theorem dX6_putBack_14 : decode cX6_putBack 14 = .ok (.aload_n 0, 1) := by decide +kernel
theorem dX6_putBack_15 : decode cX6_putBack 15 = .ok (.getfield 13, 3) := by decide +kernel
theorem dX6_putBack_18 : decode cX6_putBack 18 = .ok (.iload_n 1, 1) := by decide +kernel
theorem dX6_putBack_19 : decode cX6_putBack 19 = .ok (.iaload, 1) := by decide +kernel
theorem dX6_putBack_20 : decode cX6_putBack 20 = .ok (.iastore, 1) := by decide +kernel
theorem dX6_putBack_21 : decode cX6_putBack 21 = .ok (.iinc 1 1, 3) := by decide +kernel
theorem dX6_putBack_24 : decode cX6_putBack 24 = .ok (.goto (-22), 3) := by decide +kernel
theorem dX6_putBack_27 : decode cX6_putBack 27 = .ok (.return_, 1) := by decide +kernel
theorem dX6_taxOf_0 : decode cX6_taxOf 0 = .ok (.aload_n 0, 1) := by decide +kernel
theorem dX6_taxOf_1 : decode cX6_taxOf 1 = .ok (.getfield 7, 3) := by decide +kernel
theorem dX6_taxOf_4 : decode cX6_taxOf 4 = .ok (.iload_n 1, 1) := by decide +kernel
theorem dX6_taxOf_5 : decode cX6_taxOf 5 = .ok (.iconst 1, 1) := by decide +kernel
theorem dX6_taxOf_6 : decode cX6_taxOf 6 = .ok (.invokestatic 51, 3) := by decide +kernel
theorem dX6_taxOf_9 : decode cX6_taxOf 9 = .ok (.iaload, 1) := by decide +kernel
theorem dX6_taxOf_10 : decode cX6_taxOf 10 = .ok (.aload_n 0, 1) := by decide +kernel
theorem dX6_taxOf_11 : decode cX6_taxOf 11 = .ok (.getfield 7, 3) := by decide +kernel
theorem dX6_taxOf_14 : decode cX6_taxOf 14 = .ok (.iload_n 1, 1) := by decide +kernel
theorem dX6_taxOf_15 : decode cX6_taxOf 15 = .ok (.iconst 2, 1) := by decide +kernel
theorem dX6_taxOf_16 : decode cX6_taxOf 16 = .ok (.invokestatic 51, 3) := by decide +kernel
theorem dX6_taxOf_19 : decode cX6_taxOf 19 = .ok (.iaload, 1) := by decide +kernel
theorem dX6_taxOf_20 : decode cX6_taxOf 20 = .ok (.imul, 1) := by decide +kernel
theorem dX6_taxOf_21 : decode cX6_taxOf 21 = .ok (.bipush 50, 2) := by decide +kernel
theorem dX6_taxOf_23 : decode cX6_taxOf 23 = .ok (.iadd, 1) := by decide +kernel
theorem dX6_taxOf_24 : decode cX6_taxOf 24 = .ok (.bipush 100, 2) := by decide +kernel
theorem dX6_taxOf_26 : decode cX6_taxOf 26 = .ok (.idiv, 1) := by decide +kernel
theorem dX6_taxOf_27 : decode cX6_taxOf 27 = .ok (.ireturn, 1) := by decide +kernel
theorem dX6_sumOf_0 : decode cX6_sumOf 0 = .ok (.aload_n 0, 1) := by decide +kernel
theorem dX6_sumOf_1 : decode cX6_sumOf 1 = .ok (.getfield 7, 3) := by decide +kernel
theorem dX6_sumOf_4 : decode cX6_sumOf 4 = .ok (.iload_n 1, 1) := by decide +kernel
theorem dX6_sumOf_5 : decode cX6_sumOf 5 = .ok (.iconst 1, 1) := by decide +kernel
theorem dX6_sumOf_6 : decode cX6_sumOf 6 = .ok (.invokestatic 51, 3) := by decide +kernel
theorem dX6_sumOf_9 : decode cX6_sumOf 9 = .ok (.iaload, 1) := by decide +kernel
theorem dX6_sumOf_10 : decode cX6_sumOf 10 = .ok (.aload_n 0, 1) := by decide +kernel
theorem dX6_sumOf_11 : decode cX6_sumOf 11 = .ok (.iload_n 1, 1) := by decide +kernel
theorem dX6_sumOf_12 : decode cX6_sumOf 12 = .ok (.invokevirtual 55, 3) := by decide +kernel
theorem dX6_sumOf_15 : decode cX6_sumOf 15 = .ok (.iadd, 1) := by decide +kernel
theorem dX6_sumOf_16 : decode cX6_sumOf 16 = .ok (.ireturn, 1) := by decide +kernel
theorem dX6_owedOn_0 : decode cX6_owedOn 0 = .ok (.aload_n 0, 1) := by decide +kernel
theorem dX6_owedOn_1 : decode cX6_owedOn 1 = .ok (.iload_n 1, 1) := by decide +kernel
theorem dX6_owedOn_2 : decode cX6_owedOn 2 = .ok (.invokevirtual 59, 3) := by decide +kernel
theorem dX6_owedOn_5 : decode cX6_owedOn 5 = .ok (.aload_n 0, 1) := by decide +kernel
theorem dX6_owedOn_6 : decode cX6_owedOn 6 = .ok (.getfield 7, 3) := by decide +kernel
theorem dX6_owedOn_9 : decode cX6_owedOn 9 = .ok (.iload_n 1, 1) := by decide +kernel
theorem dX6_owedOn_10 : decode cX6_owedOn 10 = .ok (.bipush 8, 2) := by decide +kernel
theorem dX6_owedOn_12 : decode cX6_owedOn 12 = .ok (.invokestatic 51, 3) := by decide +kernel
theorem dX6_owedOn_15 : decode cX6_owedOn 15 = .ok (.iaload, 1) := by decide +kernel
theorem dX6_owedOn_16 : decode cX6_owedOn 16 = .ok (.iadd, 1) := by decide +kernel
theorem dX6_owedOn_17 : decode cX6_owedOn 17 = .ok (.aload_n 0, 1) := by decide +kernel
theorem dX6_owedOn_18 : decode cX6_owedOn 18 = .ok (.getfield 7, 3) := by decide +kernel
theorem dX6_owedOn_21 : decode cX6_owedOn 21 = .ok (.iload_n 1, 1) := by decide +kernel
theorem dX6_owedOn_22 : decode cX6_owedOn 22 = .ok (.bipush 6, 2) := by decide +kernel
theorem dX6_owedOn_24 : decode cX6_owedOn 24 = .ok (.invokestatic 51, 3) := by decide +kernel
theorem dX6_owedOn_27 : decode cX6_owedOn 27 = .ok (.iaload, 1) := by decide +kernel
theorem dX6_owedOn_28 : decode cX6_owedOn 28 = .ok (.isub, 1) := by decide +kernel
theorem dX6_owedOn_29 : decode cX6_owedOn 29 = .ok (.aload_n 0, 1) := by decide +kernel
theorem dX6_owedOn_30 : decode cX6_owedOn 30 = .ok (.getfield 7, 3) := by decide +kernel
theorem dX6_owedOn_33 : decode cX6_owedOn 33 = .ok (.iload_n 1, 1) := by decide +kernel
theorem dX6_owedOn_34 : decode cX6_owedOn 34 = .ok (.bipush 7, 2) := by decide +kernel
theorem dX6_owedOn_36 : decode cX6_owedOn 36 = .ok (.invokestatic 51, 3) := by decide +kernel
theorem dX6_owedOn_39 : decode cX6_owedOn 39 = .ok (.iaload, 1) := by decide +kernel
theorem dX6_owedOn_40 : decode cX6_owedOn 40 = .ok (.isub, 1) := by decide +kernel
theorem dX6_owedOn_41 : decode cX6_owedOn 41 = .ok (.ireturn, 1) := by decide +kernel
theorem dX6_is_0 : decode cX6_is 0 = .ok (.aload_n 0, 1) := by decide +kernel
theorem dX6_is_1 : decode cX6_is 1 = .ok (.getfield 7, 3) := by decide +kernel
theorem dX6_is_4 : decode cX6_is 4 = .ok (.iload_n 1, 1) := by decide +kernel
theorem dX6_is_5 : decode cX6_is 5 = .ok (.iconst 5, 1) := by decide +kernel
theorem dX6_is_6 : decode cX6_is 6 = .ok (.invokestatic 51, 3) := by decide +kernel
theorem dX6_is_9 : decode cX6_is 9 = .ok (.iaload, 1) := by decide +kernel
theorem dX6_is_10 : decode cX6_is 10 = .ok (.iload_n 2, 1) := by decide +kernel
theorem dX6_is_11 : decode cX6_is 11 = .ok (.if_icmp .ne 7, 3) := by decide +kernel
theorem dX6_is_14 : decode cX6_is 14 = .ok (.iconst 1, 1) := by decide +kernel
theorem dX6_is_15 : decode cX6_is 15 = .ok (.goto 4, 3) := by decide +kernel
theorem dX6_is_18 : decode cX6_is 18 = .ok (.iconst 0, 1) := by decide +kernel
theorem dX6_is_19 : decode cX6_is 19 = .ok (.ireturn, 1) := by decide +kernel
theorem dX6_isOpenOf_0 : decode cX6_isOpenOf 0 = .ok (.aload_n 0, 1) := by decide +kernel
theorem dX6_isOpenOf_1 : decode cX6_isOpenOf 1 = .ok (.getfield 7, 3) := by decide +kernel
theorem dX6_isOpenOf_4 : decode cX6_isOpenOf 4 = .ok (.iload_n 1, 1) := by decide +kernel
theorem dX6_isOpenOf_5 : decode cX6_isOpenOf 5 = .ok (.iconst 0, 1) := by decide +kernel
theorem dX6_isOpenOf_6 : decode cX6_isOpenOf 6 = .ok (.invokestatic 51, 3) := by decide +kernel
theorem dX6_isOpenOf_9 : decode cX6_isOpenOf 9 = .ok (.iaload, 1) := by decide +kernel
theorem dX6_isOpenOf_10 : decode cX6_isOpenOf 10 = .ok (.iload_n 2, 1) := by decide +kernel
theorem dX6_isOpenOf_11 : decode cX6_isOpenOf 11 = .ok (.if_icmp .ne 16, 3) := by decide +kernel
theorem dX6_isOpenOf_14 : decode cX6_isOpenOf 14 = .ok (.aload_n 0, 1) := by decide +kernel
theorem dX6_isOpenOf_15 : decode cX6_isOpenOf 15 = .ok (.iload_n 1, 1) := by decide +kernel
theorem dX6_isOpenOf_16 : decode cX6_isOpenOf 16 = .ok (.iconst 0, 1) := by decide +kernel
theorem dX6_isOpenOf_17 : decode cX6_isOpenOf 17 = .ok (.invokevirtual 62, 3) := by decide +kernel
theorem dX6_isOpenOf_20 : decode cX6_isOpenOf 20 = .ok (.ifCond .eq 7, 3) := by decide +kernel
theorem dX6_isOpenOf_23 : decode cX6_isOpenOf 23 = .ok (.iconst 1, 1) := by decide +kernel
theorem dX6_isOpenOf_24 : decode cX6_isOpenOf 24 = .ok (.goto 4, 3) := by decide +kernel
theorem dX6_isOpenOf_27 : decode cX6_isOpenOf 27 = .ok (.iconst 0, 1) := by decide +kernel
theorem dX6_isOpenOf_28 : decode cX6_isOpenOf 28 = .ok (.ireturn, 1) := by decide +kernel
theorem dX6_daysSince_0 : decode cX6_daysSince 0 = .ok (.aload_n 0, 1) := by decide +kernel
theorem dX6_daysSince_1 : decode cX6_daysSince 1 = .ok (.getfield 7, 3) := by decide +kernel
theorem dX6_daysSince_4 : decode cX6_daysSince 4 = .ok (.iconst 0, 1) := by decide +kernel
theorem dX6_daysSince_5 : decode cX6_daysSince 5 = .ok (.iaload, 1) := by decide +kernel
theorem dX6_daysSince_6 : decode cX6_daysSince 6 = .ok (.iload_n 1, 1) := by decide +kernel
theorem dX6_daysSince_7 : decode cX6_daysSince 7 = .ok (.isub, 1) := by decide +kernel
theorem dX6_daysSince_8 : decode cX6_daysSince 8 = .ok (.ireturn, 1) := by decide +kernel
theorem dX6_discountOf_0 : decode cX6_discountOf 0 = .ok (.aload_n 0, 1) := by decide +kernel
theorem dX6_discountOf_1 : decode cX6_discountOf 1 = .ok (.getfield 7, 3) := by decide +kernel
theorem dX6_discountOf_4 : decode cX6_discountOf 4 = .ok (.iload_n 1, 1) := by decide +kernel
theorem dX6_discountOf_5 : decode cX6_discountOf 5 = .ok (.bipush 9, 2) := by decide +kernel
theorem dX6_discountOf_7 : decode cX6_discountOf 7 = .ok (.invokestatic 51, 3) := by decide +kernel
theorem dX6_discountOf_10 : decode cX6_discountOf 10 = .ok (.iaload, 1) := by decide +kernel
theorem dX6_discountOf_11 : decode cX6_discountOf 11 = .ok (.ifCond .ne 30, 3) := by decide +kernel
theorem dX6_discountOf_14 : decode cX6_discountOf 14 = .ok (.aload_n 0, 1) := by decide +kernel
theorem dX6_discountOf_15 : decode cX6_discountOf 15 = .ok (.aload_n 0, 1) := by decide +kernel
theorem dX6_discountOf_16 : decode cX6_discountOf 16 = .ok (.getfield 7, 3) := by decide +kernel
theorem dX6_discountOf_19 : decode cX6_discountOf 19 = .ok (.iload_n 1, 1) := by decide +kernel
theorem dX6_discountOf_20 : decode cX6_discountOf 20 = .ok (.iconst 3, 1) := by decide +kernel
theorem dX6_discountOf_21 : decode cX6_discountOf 21 = .ok (.invokestatic 51, 3) := by decide +kernel
theorem dX6_discountOf_24 : decode cX6_discountOf 24 = .ok (.iaload, 1) := by decide +kernel
theorem dX6_discountOf_25 : decode cX6_discountOf 25 = .ok (.invokevirtual 66, 3) := by decide +kernel
theorem dX6_discountOf_28 : decode cX6_discountOf 28 = .ok (.aload_n 0, 1) := by decide +kernel
theorem dX6_discountOf_29 : decode cX6_discountOf 29 = .ok (.getfield 7, 3) := by decide +kernel
theorem dX6_discountOf_32 : decode cX6_discountOf 32 = .ok (.iconst 1, 1) := by decide +kernel
theorem dX6_discountOf_33 : decode cX6_discountOf 33 = .ok (.iaload, 1) := by decide +kernel
theorem dX6_discountOf_34 : decode cX6_discountOf 34 = .ok (.if_icmp .gt 7, 3) := by decide +kernel
theorem dX6_discountOf_37 : decode cX6_discountOf 37 = .ok (.iconst 1, 1) := by decide +kernel
theorem dX6_discountOf_38 : decode cX6_discountOf 38 = .ok (.goto 4, 3) := by decide +kernel
theorem dX6_discountOf_41 : decode cX6_discountOf 41 = .ok (.iconst 0, 1) := by decide +kernel
theorem dX6_discountOf_42 : decode cX6_discountOf 42 = .ok (.istore_n 2, 1) := by decide +kernel
theorem dX6_discountOf_43 : decode cX6_discountOf 43 = .ok (.aload_n 0, 1) := by decide +kernel
theorem dX6_discountOf_44 : decode cX6_discountOf 44 = .ok (.iload_n 1, 1) := by decide +kernel
theorem dX6_discountOf_45 : decode cX6_discountOf 45 = .ok (.invokevirtual 59, 3) := by decide +kernel
theorem dX6_discountOf_48 : decode cX6_discountOf 48 = .ok (.aload_n 0, 1) := by decide +kernel
theorem dX6_discountOf_49 : decode cX6_discountOf 49 = .ok (.getfield 7, 3) := by decide +kernel
theorem dX6_discountOf_52 : decode cX6_discountOf 52 = .ok (.iconst 2, 1) := by decide +kernel
theorem dX6_discountOf_53 : decode cX6_discountOf 53 = .ok (.iaload, 1) := by decide +kernel
theorem dX6_discountOf_54 : decode cX6_discountOf 54 = .ok (.imul, 1) := by decide +kernel
theorem dX6_discountOf_55 : decode cX6_discountOf 55 = .ok (.bipush 100, 2) := by decide +kernel
theorem dX6_discountOf_57 : decode cX6_discountOf 57 = .ok (.idiv, 1) := by decide +kernel
theorem dX6_discountOf_58 : decode cX6_discountOf 58 = .ok (.istore_n 3, 1) := by decide +kernel
theorem dX6_discountOf_59 : decode cX6_discountOf 59 = .ok (.iload_n 2, 1) := by decide +kernel
theorem dX6_discountOf_60 : decode cX6_discountOf 60 = .ok (.ifCond .ne 7, 3) := by decide +kernel
theorem dX6_discountOf_63 : decode cX6_discountOf 63 = .ok (.iconst 0, 1) := by decide +kernel
theorem dX6_discountOf_64 : decode cX6_discountOf 64 = .ok (.goto 23, 3) := by decide +kernel
theorem dX6_discountOf_67 : decode cX6_discountOf 67 = .ok (.iload_n 3, 1) := by decide +kernel
theorem dX6_discountOf_68 : decode cX6_discountOf 68 = .ok (.aload_n 0, 1) := by decide +kernel
theorem dX6_discountOf_69 : decode cX6_discountOf 69 = .ok (.iload_n 1, 1) := by decide +kernel
theorem dX6_discountOf_70 : decode cX6_discountOf 70 = .ok (.invokevirtual 69, 3) := by decide +kernel
theorem dX6_discountOf_73 : decode cX6_discountOf 73 = .ok (.if_icmp .ge 7, 3) := by decide +kernel
theorem dX6_discountOf_76 : decode cX6_discountOf 76 = .ok (.iload_n 3, 1) := by decide +kernel
theorem dX6_discountOf_77 : decode cX6_discountOf 77 = .ok (.goto 10, 3) := by decide +kernel
theorem dX6_discountOf_80 : decode cX6_discountOf 80 = .ok (.aload_n 0, 1) := by decide +kernel
theorem dX6_discountOf_81 : decode cX6_discountOf 81 = .ok (.iload_n 1, 1) := by decide +kernel
theorem dX6_discountOf_82 : decode cX6_discountOf 82 = .ok (.invokevirtual 69, 3) := by decide +kernel
theorem dX6_discountOf_85 : decode cX6_discountOf 85 = .ok (.iconst 1, 1) := by decide +kernel
theorem dX6_discountOf_86 : decode cX6_discountOf 86 = .ok (.isub, 1) := by decide +kernel
theorem dX6_discountOf_87 : decode cX6_discountOf 87 = .ok (.ireturn, 1) := by decide +kernel
theorem dX6_owedBy_0 : decode cX6_owedBy 0 = .ok (.iconst 0, 1) := by decide +kernel
theorem dX6_owedBy_1 : decode cX6_owedBy 1 = .ok (.istore_n 3, 1) := by decide +kernel
theorem dX6_owedBy_2 : decode cX6_owedBy 2 = .ok (.iconst 0, 1) := by decide +kernel
theorem dX6_owedBy_3 : decode cX6_owedBy 3 = .ok (.istore 4, 2) := by decide +kernel
theorem dX6_owedBy_5 : decode cX6_owedBy 5 = .ok (.iload 4, 2) := by decide +kernel
theorem dX6_owedBy_7 : decode cX6_owedBy 7 = .ok (.aload_n 0, 1) := by decide +kernel
theorem dX6_owedBy_8 : decode cX6_owedBy 8 = .ok (.getfield 7, 3) := by decide +kernel
theorem dX6_owedBy_11 : decode cX6_owedBy 11 = .ok (.bipush 6, 2) := by decide +kernel
theorem dX6_owedBy_13 : decode cX6_owedBy 13 = .ok (.iaload, 1) := by decide +kernel
theorem dX6_owedBy_14 : decode cX6_owedBy 14 = .ok (.if_icmp .ge 53, 3) := by decide +kernel
theorem dX6_owedBy_17 : decode cX6_owedBy 17 = .ok (.iload_n 3, 1) := by decide +kernel
theorem dX6_owedBy_18 : decode cX6_owedBy 18 = .ok (.aload_n 0, 1) := by decide +kernel
theorem dX6_owedBy_19 : decode cX6_owedBy 19 = .ok (.iload 4, 2) := by decide +kernel
theorem dX6_owedBy_21 : decode cX6_owedBy 21 = .ok (.iload_n 2, 1) := by decide +kernel
theorem dX6_owedBy_22 : decode cX6_owedBy 22 = .ok (.invokevirtual 62, 3) := by decide +kernel
theorem dX6_owedBy_25 : decode cX6_owedBy 25 = .ok (.ifCond .eq 33, 3) := by decide +kernel
theorem dX6_owedBy_28 : decode cX6_owedBy 28 = .ok (.iload_n 1, 1) := by decide +kernel
theorem dX6_owedBy_29 : decode cX6_owedBy 29 = .ok (.bipush (-5), 2) := by decide +kernel
theorem dX6_owedBy_31 : decode cX6_owedBy 31 = .ok (.if_icmp .eq 18, 3) := by decide +kernel
theorem dX6_owedBy_34 : decode cX6_owedBy 34 = .ok (.aload_n 0, 1) := by decide +kernel
theorem dX6_owedBy_35 : decode cX6_owedBy 35 = .ok (.getfield 7, 3) := by decide +kernel
theorem dX6_owedBy_38 : decode cX6_owedBy 38 = .ok (.iload 4, 2) := by decide +kernel
theorem dX6_owedBy_40 : decode cX6_owedBy 40 = .ok (.iconst 0, 1) := by decide +kernel
theorem dX6_owedBy_41 : decode cX6_owedBy 41 = .ok (.invokestatic 51, 3) := by decide +kernel
theorem dX6_owedBy_44 : decode cX6_owedBy 44 = .ok (.iaload, 1) := by decide +kernel
theorem dX6_owedBy_45 : decode cX6_owedBy 45 = .ok (.iload_n 1, 1) := by decide +kernel
theorem dX6_owedBy_46 : decode cX6_owedBy 46 = .ok (.if_icmp .ne 12, 3) := by decide +kernel
theorem dX6_owedBy_49 : decode cX6_owedBy 49 = .ok (.aload_n 0, 1) := by decide +kernel
theorem dX6_owedBy_50 : decode cX6_owedBy 50 = .ok (.iload 4, 2) := by decide +kernel
theorem dX6_owedBy_52 : decode cX6_owedBy 52 = .ok (.invokevirtual 69, 3) := by decide +kernel
theorem dX6_owedBy_55 : decode cX6_owedBy 55 = .ok (.goto 4, 3) := by decide +kernel
theorem dX6_owedBy_58 : decode cX6_owedBy 58 = .ok (.iconst 0, 1) := by decide +kernel
theorem dX6_owedBy_59 : decode cX6_owedBy 59 = .ok (.iadd, 1) := by decide +kernel
theorem dX6_owedBy_60 : decode cX6_owedBy 60 = .ok (.istore_n 3, 1) := by decide +kernel
theorem dX6_owedBy_61 : decode cX6_owedBy 61 = .ok (.iinc 4 1, 3) := by decide +kernel
theorem dX6_owedBy_64 : decode cX6_owedBy 64 = .ok (.goto (-59), 3) := by decide +kernel
theorem dX6_owedBy_67 : decode cX6_owedBy 67 = .ok (.iload_n 3, 1) := by decide +kernel
theorem dX6_owedBy_68 : decode cX6_owedBy 68 = .ok (.ireturn, 1) := by decide +kernel
theorem dX6_takesOf_0 : decode cX6_takesOf 0 = .ok (.aload_n 0, 1) := by decide +kernel
theorem dX6_takesOf_1 : decode cX6_takesOf 1 = .ok (.iload_n 1, 1) := by decide +kernel
theorem dX6_takesOf_2 : decode cX6_takesOf 2 = .ok (.invokevirtual 72, 3) := by decide +kernel
theorem dX6_takesOf_5 : decode cX6_takesOf 5 = .ok (.istore_n 3, 1) := by decide +kernel
theorem dX6_takesOf_6 : decode cX6_takesOf 6 = .ok (.iload_n 2, 1) := by decide +kernel
theorem dX6_takesOf_7 : decode cX6_takesOf 7 = .ok (.iload_n 3, 1) := by decide +kernel
theorem dX6_takesOf_8 : decode cX6_takesOf 8 = .ok (.iadd, 1) := by decide +kernel
theorem dX6_takesOf_9 : decode cX6_takesOf 9 = .ok (.aload_n 0, 1) := by decide +kernel
theorem dX6_takesOf_10 : decode cX6_takesOf 10 = .ok (.iload_n 1, 1) := by decide +kernel
theorem dX6_takesOf_11 : decode cX6_takesOf 11 = .ok (.invokevirtual 69, 3) := by decide +kernel
theorem dX6_takesOf_14 : decode cX6_takesOf 14 = .ok (.if_icmp .lt 7, 3) := by decide +kernel
theorem dX6_takesOf_17 : decode cX6_takesOf 17 = .ok (.iload_n 3, 1) := by decide +kernel
theorem dX6_takesOf_18 : decode cX6_takesOf 18 = .ok (.goto 4, 3) := by decide +kernel
theorem dX6_takesOf_21 : decode cX6_takesOf 21 = .ok (.iconst 0, 1) := by decide +kernel
theorem dX6_takesOf_22 : decode cX6_takesOf 22 = .ok (.istore_n 3, 1) := by decide +kernel
theorem dX6_takesOf_23 : decode cX6_takesOf 23 = .ok (.aload_n 0, 1) := by decide +kernel
theorem dX6_takesOf_24 : decode cX6_takesOf 24 = .ok (.iload_n 1, 1) := by decide +kernel
theorem dX6_takesOf_25 : decode cX6_takesOf 25 = .ok (.invokevirtual 69, 3) := by decide +kernel
theorem dX6_takesOf_28 : decode cX6_takesOf 28 = .ok (.iload_n 3, 1) := by decide +kernel
theorem dX6_takesOf_29 : decode cX6_takesOf 29 = .ok (.isub, 1) := by decide +kernel
theorem dX6_takesOf_30 : decode cX6_takesOf 30 = .ok (.istore 4, 2) := by decide +kernel
theorem dX6_takesOf_32 : decode cX6_takesOf 32 = .ok (.iload_n 2, 1) := by decide +kernel
theorem dX6_takesOf_33 : decode cX6_takesOf 33 = .ok (.iload 4, 2) := by decide +kernel
theorem dX6_takesOf_35 : decode cX6_takesOf 35 = .ok (.if_icmp .ge 7, 3) := by decide +kernel
theorem dX6_takesOf_38 : decode cX6_takesOf 38 = .ok (.iload_n 2, 1) := by decide +kernel
theorem dX6_takesOf_39 : decode cX6_takesOf 39 = .ok (.goto 5, 3) := by decide +kernel
theorem dX6_takesOf_42 : decode cX6_takesOf 42 = .ok (.iload 4, 2) := by decide +kernel
theorem dX6_takesOf_44 : decode cX6_takesOf 44 = .ok (.istore 5, 2) := by decide +kernel
theorem dX6_takesOf_46 : decode cX6_takesOf 46 = .ok (.aload_n 0, 1) := by decide +kernel
theorem dX6_takesOf_47 : decode cX6_takesOf 47 = .ok (.getfield 7, 3) := by decide +kernel
theorem dX6_takesOf_50 : decode cX6_takesOf 50 = .ok (.iload_n 1, 1) := by decide +kernel
theorem dX6_takesOf_51 : decode cX6_takesOf 51 = .ok (.bipush 6, 2) := by decide +kernel
theorem dX6_takesOf_53 : decode cX6_takesOf 53 = .ok (.invokestatic 51, 3) := by decide +kernel
theorem dX6_takesOf_56 : decode cX6_takesOf 56 = .ok (.dup2, 1) := by decide +kernel
theorem dX6_takesOf_57 : decode cX6_takesOf 57 = .ok (.iaload, 1) := by decide +kernel
theorem dX6_takesOf_58 : decode cX6_takesOf 58 = .ok (.iload 5, 2) := by decide +kernel
theorem dX6_takesOf_60 : decode cX6_takesOf 60 = .ok (.iadd, 1) := by decide +kernel
theorem dX6_takesOf_61 : decode cX6_takesOf 61 = .ok (.iastore, 1) := by decide +kernel
theorem dX6_takesOf_62 : decode cX6_takesOf 62 = .ok (.aload_n 0, 1) := by decide +kernel
theorem dX6_takesOf_63 : decode cX6_takesOf 63 = .ok (.getfield 7, 3) := by decide +kernel
theorem dX6_takesOf_66 : decode cX6_takesOf 66 = .ok (.iload_n 1, 1) := by decide +kernel
theorem dX6_takesOf_67 : decode cX6_takesOf 67 = .ok (.bipush 7, 2) := by decide +kernel
theorem dX6_takesOf_69 : decode cX6_takesOf 69 = .ok (.invokestatic 51, 3) := by decide +kernel
theorem dX6_takesOf_72 : decode cX6_takesOf 72 = .ok (.dup2, 1) := by decide +kernel
theorem dX6_takesOf_73 : decode cX6_takesOf 73 = .ok (.iaload, 1) := by decide +kernel
theorem dX6_takesOf_74 : decode cX6_takesOf 74 = .ok (.iload_n 3, 1) := by decide +kernel
theorem dX6_takesOf_75 : decode cX6_takesOf 75 = .ok (.iadd, 1) := by decide +kernel
theorem dX6_takesOf_76 : decode cX6_takesOf 76 = .ok (.iastore, 1) := by decide +kernel
theorem dX6_takesOf_77 : decode cX6_takesOf 77 = .ok (.aload_n 0, 1) := by decide +kernel
theorem dX6_takesOf_78 : decode cX6_takesOf 78 = .ok (.getfield 7, 3) := by decide +kernel
theorem dX6_takesOf_81 : decode cX6_takesOf 81 = .ok (.iload_n 1, 1) := by decide +kernel
theorem dX6_takesOf_82 : decode cX6_takesOf 82 = .ok (.bipush 11, 2) := by decide +kernel
theorem dX6_takesOf_84 : decode cX6_takesOf 84 = .ok (.invokestatic 51, 3) := by decide +kernel
theorem dX6_takesOf_87 : decode cX6_takesOf 87 = .ok (.aload_n 0, 1) := by decide +kernel
theorem dX6_takesOf_88 : decode cX6_takesOf 88 = .ok (.getfield 7, 3) := by decide +kernel
theorem dX6_takesOf_91 : decode cX6_takesOf 91 = .ok (.iconst 0, 1) := by decide +kernel
theorem dX6_takesOf_92 : decode cX6_takesOf 92 = .ok (.iaload, 1) := by decide +kernel
theorem dX6_takesOf_93 : decode cX6_takesOf 93 = .ok (.iastore, 1) := by decide +kernel
theorem dX6_takesOf_94 : decode cX6_takesOf 94 = .ok (.aload_n 0, 1) := by decide +kernel
theorem dX6_takesOf_95 : decode cX6_takesOf 95 = .ok (.getfield 7, 3) := by decide +kernel
theorem dX6_takesOf_98 : decode cX6_takesOf 98 = .ok (.bipush 25, 2) := by decide +kernel
theorem dX6_takesOf_100 : decode cX6_takesOf 100 = .ok (.aload_n 0, 1) := by decide +kernel
theorem dX6_takesOf_101 : decode cX6_takesOf 101 = .ok (.getfield 7, 3) := by decide +kernel
theorem dX6_takesOf_104 : decode cX6_takesOf 104 = .ok (.iconst 0, 1) := by decide +kernel
theorem dX6_takesOf_105 : decode cX6_takesOf 105 = .ok (.iaload, 1) := by decide +kernel
theorem dX6_takesOf_106 : decode cX6_takesOf 106 = .ok (.bipush 100, 2) := by decide +kernel
theorem dX6_takesOf_108 : decode cX6_takesOf 108 = .ok (.idiv, 1) := by decide +kernel
theorem dX6_takesOf_109 : decode cX6_takesOf 109 = .ok (.iadd, 1) := by decide +kernel
theorem dX6_takesOf_110 : decode cX6_takesOf 110 = .ok (.dup2, 1) := by decide +kernel
theorem dX6_takesOf_111 : decode cX6_takesOf 111 = .ok (.iaload, 1) := by decide +kernel
theorem dX6_takesOf_112 : decode cX6_takesOf 112 = .ok (.iload 5, 2) := by decide +kernel
theorem dX6_takesOf_114 : decode cX6_takesOf 114 = .ok (.aload_n 0, 1) := by decide +kernel
theorem dX6_takesOf_115 : decode cX6_takesOf 115 = .ok (.getfield 7, 3) := by decide +kernel
theorem dX6_takesOf_118 : decode cX6_takesOf 118 = .ok (.iload_n 1, 1) := by decide +kernel
theorem dX6_takesOf_119 : decode cX6_takesOf 119 = .ok (.iconst 2, 1) := by decide +kernel
theorem dX6_takesOf_120 : decode cX6_takesOf 120 = .ok (.invokestatic 51, 3) := by decide +kernel
theorem dX6_takesOf_123 : decode cX6_takesOf 123 = .ok (.iaload, 1) := by decide +kernel
theorem dX6_takesOf_124 : decode cX6_takesOf 124 = .ok (.imul, 1) := by decide +kernel
theorem dX6_takesOf_125 : decode cX6_takesOf 125 = .ok (.bipush 100, 2) := by decide +kernel
theorem dX6_takesOf_127 : decode cX6_takesOf 127 = .ok (.aload_n 0, 1) := by decide +kernel
theorem dX6_takesOf_128 : decode cX6_takesOf 128 = .ok (.getfield 7, 3) := by decide +kernel
theorem dX6_takesOf_131 : decode cX6_takesOf 131 = .ok (.iload_n 1, 1) := by decide +kernel
theorem dX6_takesOf_132 : decode cX6_takesOf 132 = .ok (.iconst 2, 1) := by decide +kernel
theorem dX6_takesOf_133 : decode cX6_takesOf 133 = .ok (.invokestatic 51, 3) := by decide +kernel
theorem dX6_takesOf_136 : decode cX6_takesOf 136 = .ok (.iaload, 1) := by decide +kernel
theorem dX6_takesOf_137 : decode cX6_takesOf 137 = .ok (.iadd, 1) := by decide +kernel
theorem dX6_takesOf_138 : decode cX6_takesOf 138 = .ok (.idiv, 1) := by decide +kernel
theorem dX6_takesOf_139 : decode cX6_takesOf 139 = .ok (.iadd, 1) := by decide +kernel
theorem dX6_takesOf_140 : decode cX6_takesOf 140 = .ok (.iastore, 1) := by decide +kernel
theorem dX6_takesOf_141 : decode cX6_takesOf 141 = .ok (.aload_n 0, 1) := by decide +kernel
theorem dX6_takesOf_142 : decode cX6_takesOf 142 = .ok (.getfield 7, 3) := by decide +kernel
theorem dX6_takesOf_145 : decode cX6_takesOf 145 = .ok (.iload_n 1, 1) := by decide +kernel
theorem dX6_takesOf_146 : decode cX6_takesOf 146 = .ok (.iconst 5, 1) := by decide +kernel
theorem dX6_takesOf_147 : decode cX6_takesOf 147 = .ok (.invokestatic 51, 3) := by decide +kernel
theorem dX6_takesOf_150 : decode cX6_takesOf 150 = .ok (.aload_n 0, 1) := by decide +kernel
theorem dX6_takesOf_151 : decode cX6_takesOf 151 = .ok (.iload_n 1, 1) := by decide +kernel
theorem dX6_takesOf_152 : decode cX6_takesOf 152 = .ok (.invokevirtual 69, 3) := by decide +kernel
theorem dX6_takesOf_155 : decode cX6_takesOf 155 = .ok (.ifCond .ne 7, 3) := by decide +kernel
theorem dX6_takesOf_158 : decode cX6_takesOf 158 = .ok (.iconst 1, 1) := by decide +kernel
theorem dX6_takesOf_159 : decode cX6_takesOf 159 = .ok (.goto 13, 3) := by decide +kernel
theorem dX6_takesOf_162 : decode cX6_takesOf 162 = .ok (.aload_n 0, 1) := by decide +kernel
theorem dX6_takesOf_163 : decode cX6_takesOf 163 = .ok (.getfield 7, 3) := by decide +kernel
theorem dX6_takesOf_166 : decode cX6_takesOf 166 = .ok (.iload_n 1, 1) := by decide +kernel
theorem dX6_takesOf_167 : decode cX6_takesOf 167 = .ok (.iconst 5, 1) := by decide +kernel
theorem dX6_takesOf_168 : decode cX6_takesOf 168 = .ok (.invokestatic 51, 3) := by decide +kernel
theorem dX6_takesOf_171 : decode cX6_takesOf 171 = .ok (.iaload, 1) := by decide +kernel
theorem dX6_takesOf_172 : decode cX6_takesOf 172 = .ok (.iastore, 1) := by decide +kernel
theorem dX6_takesOf_173 : decode cX6_takesOf 173 = .ok (.iload 5, 2) := by decide +kernel
theorem dX6_takesOf_175 : decode cX6_takesOf 175 = .ok (.ireturn, 1) := by decide +kernel
theorem dX6_paysAll_0 : decode cX6_paysAll 0 = .ok (.iload_n 2, 1) := by decide +kernel
theorem dX6_paysAll_1 : decode cX6_paysAll 1 = .ok (.istore_n 3, 1) := by decide +kernel
theorem dX6_paysAll_2 : decode cX6_paysAll 2 = .ok (.iconst 0, 1) := by decide +kernel
theorem dX6_paysAll_3 : decode cX6_paysAll 3 = .ok (.istore 4, 2) := by decide +kernel
theorem dX6_paysAll_5 : decode cX6_paysAll 5 = .ok (.iconst 0, 1) := by decide +kernel
theorem dX6_paysAll_6 : decode cX6_paysAll 6 = .ok (.istore 5, 2) := by decide +kernel
theorem dX6_paysAll_8 : decode cX6_paysAll 8 = .ok (.iload 5, 2) := by decide +kernel
theorem dX6_paysAll_10 : decode cX6_paysAll 10 = .ok (.aload_n 0, 1) := by decide +kernel
theorem dX6_paysAll_11 : decode cX6_paysAll 11 = .ok (.getfield 7, 3) := by decide +kernel
theorem dX6_paysAll_14 : decode cX6_paysAll 14 = .ok (.bipush 6, 2) := by decide +kernel
theorem dX6_paysAll_16 : decode cX6_paysAll 16 = .ok (.iaload, 1) := by decide +kernel
theorem dX6_paysAll_17 : decode cX6_paysAll 17 = .ok (.if_icmp .ge 53, 3) := by decide +kernel
theorem dX6_paysAll_20 : decode cX6_paysAll 20 = .ok (.iload_n 3, 1) := by decide +kernel
theorem dX6_paysAll_21 : decode cX6_paysAll 21 = .ok (.ifCond .le 49, 3) := by decide +kernel
theorem dX6_paysAll_24 : decode cX6_paysAll 24 = .ok (.aload_n 0, 1) := by decide +kernel
theorem dX6_paysAll_25 : decode cX6_paysAll 25 = .ok (.iload 5, 2) := by decide +kernel
theorem dX6_paysAll_27 : decode cX6_paysAll 27 = .ok (.iload_n 1, 1) := by decide +kernel
theorem dX6_paysAll_28 : decode cX6_paysAll 28 = .ok (.invokevirtual 75, 3) := by decide +kernel
theorem dX6_paysAll_31 : decode cX6_paysAll 31 = .ok (.ifCond .eq 33, 3) := by decide +kernel
theorem dX6_paysAll_34 : decode cX6_paysAll 34 = .ok (.iload_n 3, 1) := by decide +kernel
theorem dX6_paysAll_35 : decode cX6_paysAll 35 = .ok (.aload_n 0, 1) := by decide +kernel
theorem dX6_paysAll_36 : decode cX6_paysAll 36 = .ok (.iload 5, 2) := by decide +kernel
theorem dX6_paysAll_38 : decode cX6_paysAll 38 = .ok (.iload_n 3, 1) := by decide +kernel
theorem dX6_paysAll_39 : decode cX6_paysAll 39 = .ok (.invokevirtual 78, 3) := by decide +kernel
theorem dX6_paysAll_42 : decode cX6_paysAll 42 = .ok (.isub, 1) := by decide +kernel
theorem dX6_paysAll_43 : decode cX6_paysAll 43 = .ok (.istore_n 3, 1) := by decide +kernel
theorem dX6_paysAll_44 : decode cX6_paysAll 44 = .ok (.iload 4, 2) := by decide +kernel
theorem dX6_paysAll_46 : decode cX6_paysAll 46 = .ok (.aload_n 0, 1) := by decide +kernel
theorem dX6_paysAll_47 : decode cX6_paysAll 47 = .ok (.iload 5, 2) := by decide +kernel
theorem dX6_paysAll_49 : decode cX6_paysAll 49 = .ok (.iconst 1, 1) := by decide +kernel
theorem dX6_paysAll_50 : decode cX6_paysAll 50 = .ok (.invokevirtual 62, 3) := by decide +kernel
theorem dX6_paysAll_53 : decode cX6_paysAll 53 = .ok (.ifCond .eq 7, 3) := by decide +kernel
theorem dX6_paysAll_56 : decode cX6_paysAll 56 = .ok (.iconst 1, 1) := by decide +kernel
theorem dX6_paysAll_57 : decode cX6_paysAll 57 = .ok (.goto 4, 3) := by decide +kernel
theorem dX6_paysAll_60 : decode cX6_paysAll 60 = .ok (.iconst 0, 1) := by decide +kernel
theorem dX6_paysAll_61 : decode cX6_paysAll 61 = .ok (.iadd, 1) := by decide +kernel
theorem dX6_paysAll_62 : decode cX6_paysAll 62 = .ok (.istore 4, 2) := by decide +kernel
theorem dX6_paysAll_64 : decode cX6_paysAll 64 = .ok (.iinc 5 1, 3) := by decide +kernel
theorem dX6_paysAll_67 : decode cX6_paysAll 67 = .ok (.goto (-59), 3) := by decide +kernel
theorem dX6_paysAll_70 : decode cX6_paysAll 70 = .ok (.aload_n 0, 1) := by decide +kernel
theorem dX6_paysAll_71 : decode cX6_paysAll 71 = .ok (.getfield 7, 3) := by decide +kernel
theorem dX6_paysAll_74 : decode cX6_paysAll 74 = .ok (.bipush 9, 2) := by decide +kernel
theorem dX6_paysAll_76 : decode cX6_paysAll 76 = .ok (.iload_n 1, 1) := by decide +kernel
theorem dX6_paysAll_77 : decode cX6_paysAll 77 = .ok (.iadd, 1) := by decide +kernel
theorem dX6_paysAll_78 : decode cX6_paysAll 78 = .ok (.dup2, 1) := by decide +kernel
theorem dX6_paysAll_79 : decode cX6_paysAll 79 = .ok (.iaload, 1) := by decide +kernel
theorem dX6_paysAll_80 : decode cX6_paysAll 80 = .ok (.iload_n 3, 1) := by decide +kernel
theorem dX6_paysAll_81 : decode cX6_paysAll 81 = .ok (.iadd, 1) := by decide +kernel
theorem dX6_paysAll_82 : decode cX6_paysAll 82 = .ok (.iastore, 1) := by decide +kernel
theorem dX6_paysAll_83 : decode cX6_paysAll 83 = .ok (.aload_n 0, 1) := by decide +kernel
theorem dX6_paysAll_84 : decode cX6_paysAll 84 = .ok (.getfield 7, 3) := by decide +kernel
theorem dX6_paysAll_87 : decode cX6_paysAll 87 = .ok (.bipush 17, 2) := by decide +kernel
theorem dX6_paysAll_89 : decode cX6_paysAll 89 = .ok (.iload_n 1, 1) := by decide +kernel
theorem dX6_paysAll_90 : decode cX6_paysAll 90 = .ok (.iadd, 1) := by decide +kernel
theorem dX6_paysAll_91 : decode cX6_paysAll 91 = .ok (.dup2, 1) := by decide +kernel
theorem dX6_paysAll_92 : decode cX6_paysAll 92 = .ok (.iaload, 1) := by decide +kernel
theorem dX6_paysAll_93 : decode cX6_paysAll 93 = .ok (.iload_n 2, 1) := by decide +kernel
theorem dX6_paysAll_94 : decode cX6_paysAll 94 = .ok (.iadd, 1) := by decide +kernel
theorem dX6_paysAll_95 : decode cX6_paysAll 95 = .ok (.iastore, 1) := by decide +kernel
theorem dX6_paysAll_96 : decode cX6_paysAll 96 = .ok (.iload 4, 2) := by decide +kernel
theorem dX6_paysAll_98 : decode cX6_paysAll 98 = .ok (.ireturn, 1) := by decide +kernel
theorem dX6_isTooMuch_0 : decode cX6_isTooMuch 0 = .ok (.iconst 0, 1) := by decide +kernel
theorem dX6_isTooMuch_1 : decode cX6_isTooMuch 1 = .ok (.istore_n 1, 1) := by decide +kernel
theorem dX6_isTooMuch_2 : decode cX6_isTooMuch 2 = .ok (.iconst 0, 1) := by decide +kernel
theorem dX6_isTooMuch_3 : decode cX6_isTooMuch 3 = .ok (.istore_n 2, 1) := by decide +kernel
theorem dX6_isTooMuch_4 : decode cX6_isTooMuch 4 = .ok (.iload_n 2, 1) := by decide +kernel
theorem dX6_isTooMuch_5 : decode cX6_isTooMuch 5 = .ok (.bipush 8, 2) := by decide +kernel
theorem dX6_isTooMuch_7 : decode cX6_isTooMuch 7 = .ok (.if_icmp .ge 33, 3) := by decide +kernel
theorem dX6_isTooMuch_10 : decode cX6_isTooMuch 10 = .ok (.iload_n 1, 1) := by decide +kernel
theorem dX6_isTooMuch_11 : decode cX6_isTooMuch 11 = .ok (.ifCond .ne 17, 3) := by decide +kernel
theorem dX6_isTooMuch_14 : decode cX6_isTooMuch 14 = .ok (.aload_n 0, 1) := by decide +kernel
theorem dX6_isTooMuch_15 : decode cX6_isTooMuch 15 = .ok (.getfield 7, 3) := by decide +kernel
theorem dX6_isTooMuch_18 : decode cX6_isTooMuch 18 = .ok (.bipush 9, 2) := by decide +kernel
theorem dX6_isTooMuch_20 : decode cX6_isTooMuch 20 = .ok (.iload_n 2, 1) := by decide +kernel
theorem dX6_isTooMuch_21 : decode cX6_isTooMuch 21 = .ok (.iadd, 1) := by decide +kernel
theorem dX6_isTooMuch_22 : decode cX6_isTooMuch 22 = .ok (.iaload, 1) := by decide +kernel
theorem dX6_isTooMuch_23 : decode cX6_isTooMuch 23 = .ok (.ldc 81, 2) := by decide +kernel
theorem dX6_isTooMuch_25 : decode cX6_isTooMuch 25 = .ok (.if_icmp .le 7, 3) := by decide +kernel
theorem dX6_isTooMuch_28 : decode cX6_isTooMuch 28 = .ok (.iconst 1, 1) := by decide +kernel
theorem dX6_isTooMuch_29 : decode cX6_isTooMuch 29 = .ok (.goto 4, 3) := by decide +kernel
theorem dX6_isTooMuch_32 : decode cX6_isTooMuch 32 = .ok (.iconst 0, 1) := by decide +kernel
theorem dX6_isTooMuch_33 : decode cX6_isTooMuch 33 = .ok (.istore_n 1, 1) := by decide +kernel
theorem dX6_isTooMuch_34 : decode cX6_isTooMuch 34 = .ok (.iinc 2 1, 3) := by decide +kernel
theorem dX6_isTooMuch_37 : decode cX6_isTooMuch 37 = .ok (.goto (-33), 3) := by decide +kernel
theorem dX6_isTooMuch_40 : decode cX6_isTooMuch 40 = .ok (.iload_n 1, 1) := by decide +kernel
theorem dX6_isTooMuch_41 : decode cX6_isTooMuch 41 = .ok (.ireturn, 1) := by decide +kernel
theorem dX6_billed_0 : decode cX6_billed 0 = .ok (.aload_n 0, 1) := by decide +kernel
theorem dX6_billed_1 : decode cX6_billed 1 = .ok (.getfield 7, 3) := by decide +kernel
theorem dX6_billed_4 : decode cX6_billed 4 = .ok (.bipush 6, 2) := by decide +kernel
theorem dX6_billed_6 : decode cX6_billed 6 = .ok (.iaload, 1) := by decide +kernel
theorem dX6_billed_7 : decode cX6_billed 7 = .ok (.bipush 40, 2) := by decide +kernel
theorem dX6_billed_9 : decode cX6_billed 9 = .ok (.if_icmp .ne 6, 3) := by decide +kernel
theorem dX6_billed_12 : decode cX6_billed 12 = .ok (.bipush (-3), 2) := by decide +kernel
theorem dX6_billed_14 : decode cX6_billed 14 = .ok (.ireturn, 1) := by decide +kernel
theorem dX6_billed_15 : decode cX6_billed 15 = .ok (.aload_n 0, 1) := by decide +kernel
theorem dX6_billed_16 : decode cX6_billed 16 = .ok (.getfield 7, 3) := by decide +kernel
theorem dX6_billed_19 : decode cX6_billed 19 = .ok (.bipush 6, 2) := by decide +kernel
theorem dX6_billed_21 : decode cX6_billed 21 = .ok (.iaload, 1) := by decide +kernel
theorem dX6_billed_22 : decode cX6_billed 22 = .ok (.istore 5, 2) := by decide +kernel
theorem dX6_billed_24 : decode cX6_billed 24 = .ok (.aload_n 0, 1) := by decide +kernel
theorem dX6_billed_25 : decode cX6_billed 25 = .ok (.getfield 7, 3) := by decide +kernel
theorem dX6_billed_28 : decode cX6_billed 28 = .ok (.bipush 6, 2) := by decide +kernel
theorem dX6_billed_30 : decode cX6_billed 30 = .ok (.dup2, 1) := by decide +kernel
theorem dX6_billed_31 : decode cX6_billed 31 = .ok (.iaload, 1) := by decide +kernel
theorem dX6_billed_32 : decode cX6_billed 32 = .ok (.iconst 1, 1) := by decide +kernel
theorem dX6_billed_33 : decode cX6_billed 33 = .ok (.iadd, 1) := by decide +kernel
theorem dX6_billed_34 : decode cX6_billed 34 = .ok (.iastore, 1) := by decide +kernel
theorem dX6_billed_35 : decode cX6_billed 35 = .ok (.iconst 0, 1) := by decide +kernel
theorem dX6_billed_36 : decode cX6_billed 36 = .ok (.istore 6, 2) := by decide +kernel
theorem dX6_billed_38 : decode cX6_billed 38 = .ok (.iload 6, 2) := by decide +kernel
theorem dX6_billed_40 : decode cX6_billed 40 = .ok (.bipush 12, 2) := by decide +kernel
theorem dX6_billed_42 : decode cX6_billed 42 = .ok (.if_icmp .ge 22, 3) := by decide +kernel
theorem dX6_billed_45 : decode cX6_billed 45 = .ok (.aload_n 0, 1) := by decide +kernel
theorem dX6_billed_46 : decode cX6_billed 46 = .ok (.getfield 7, 3) := by decide +kernel
theorem dX6_billed_49 : decode cX6_billed 49 = .ok (.iload 5, 2) := by decide +kernel
theorem dX6_billed_51 : decode cX6_billed 51 = .ok (.iload 6, 2) := by decide +kernel
theorem dX6_billed_53 : decode cX6_billed 53 = .ok (.invokestatic 51, 3) := by decide +kernel
theorem dX6_billed_56 : decode cX6_billed 56 = .ok (.iconst 0, 1) := by decide +kernel
theorem dX6_billed_57 : decode cX6_billed 57 = .ok (.iastore, 1) := by decide +kernel
theorem dX6_billed_58 : decode cX6_billed 58 = .ok (.iinc 6 1, 3) := by decide +kernel
theorem dX6_billed_61 : decode cX6_billed 61 = .ok (.goto (-23), 3) := by decide +kernel
theorem dX6_billed_64 : decode cX6_billed 64 = .ok (.aload_n 0, 1) := by decide +kernel
theorem dX6_billed_65 : decode cX6_billed 65 = .ok (.getfield 7, 3) := by decide +kernel
theorem dX6_billed_68 : decode cX6_billed 68 = .ok (.iload 5, 2) := by decide +kernel
theorem dX6_billed_70 : decode cX6_billed 70 = .ok (.iconst 0, 1) := by decide +kernel
theorem dX6_billed_71 : decode cX6_billed 71 = .ok (.invokestatic 51, 3) := by decide +kernel
theorem dX6_billed_74 : decode cX6_billed 74 = .ok (.iload_n 1, 1) := by decide +kernel
theorem dX6_billed_75 : decode cX6_billed 75 = .ok (.iastore, 1) := by decide +kernel
theorem dX6_billed_76 : decode cX6_billed 76 = .ok (.aload_n 0, 1) := by decide +kernel
theorem dX6_billed_77 : decode cX6_billed 77 = .ok (.getfield 7, 3) := by decide +kernel
theorem dX6_billed_80 : decode cX6_billed 80 = .ok (.iload 5, 2) := by decide +kernel
theorem dX6_billed_82 : decode cX6_billed 82 = .ok (.iconst 1, 1) := by decide +kernel
theorem dX6_billed_83 : decode cX6_billed 83 = .ok (.invokestatic 51, 3) := by decide +kernel
theorem dX6_billed_86 : decode cX6_billed 86 = .ok (.iload_n 2, 1) := by decide +kernel
theorem dX6_billed_87 : decode cX6_billed 87 = .ok (.iastore, 1) := by decide +kernel
theorem dX6_billed_88 : decode cX6_billed 88 = .ok (.aload_n 0, 1) := by decide +kernel
theorem dX6_billed_89 : decode cX6_billed 89 = .ok (.getfield 7, 3) := by decide +kernel
theorem dX6_billed_92 : decode cX6_billed 92 = .ok (.iload 5, 2) := by decide +kernel
theorem dX6_billed_94 : decode cX6_billed 94 = .ok (.iconst 2, 1) := by decide +kernel
theorem dX6_billed_95 : decode cX6_billed 95 = .ok (.invokestatic 51, 3) := by decide +kernel
theorem dX6_billed_98 : decode cX6_billed 98 = .ok (.iload_n 3, 1) := by decide +kernel
theorem dX6_billed_99 : decode cX6_billed 99 = .ok (.iastore, 1) := by decide +kernel
theorem dX6_billed_100 : decode cX6_billed 100 = .ok (.aload_n 0, 1) := by decide +kernel
theorem dX6_billed_101 : decode cX6_billed 101 = .ok (.getfield 7, 3) := by decide +kernel
theorem dX6_billed_104 : decode cX6_billed 104 = .ok (.iload 5, 2) := by decide +kernel
theorem dX6_billed_106 : decode cX6_billed 106 = .ok (.iconst 3, 1) := by decide +kernel
theorem dX6_billed_107 : decode cX6_billed 107 = .ok (.invokestatic 51, 3) := by decide +kernel
theorem dX6_billed_110 : decode cX6_billed 110 = .ok (.aload_n 0, 1) := by decide +kernel
theorem dX6_billed_111 : decode cX6_billed 111 = .ok (.getfield 7, 3) := by decide +kernel
theorem dX6_billed_114 : decode cX6_billed 114 = .ok (.iconst 0, 1) := by decide +kernel
theorem dX6_billed_115 : decode cX6_billed 115 = .ok (.iaload, 1) := by decide +kernel
theorem dX6_billed_116 : decode cX6_billed 116 = .ok (.iastore, 1) := by decide +kernel
theorem dX6_billed_117 : decode cX6_billed 117 = .ok (.aload_n 0, 1) := by decide +kernel
theorem dX6_billed_118 : decode cX6_billed 118 = .ok (.getfield 7, 3) := by decide +kernel
theorem dX6_billed_121 : decode cX6_billed 121 = .ok (.iload 5, 2) := by decide +kernel
theorem dX6_billed_123 : decode cX6_billed 123 = .ok (.iconst 4, 1) := by decide +kernel
theorem dX6_billed_124 : decode cX6_billed 124 = .ok (.invokestatic 51, 3) := by decide +kernel
theorem dX6_billed_127 : decode cX6_billed 127 = .ok (.iload 4, 2) := by decide +kernel
theorem dX6_billed_129 : decode cX6_billed 129 = .ok (.iastore, 1) := by decide +kernel
theorem dX6_billed_130 : decode cX6_billed 130 = .ok (.aload_n 0, 1) := by decide +kernel
theorem dX6_billed_131 : decode cX6_billed 131 = .ok (.getfield 7, 3) := by decide +kernel
theorem dX6_billed_134 : decode cX6_billed 134 = .ok (.iload 5, 2) := by decide +kernel
theorem dX6_billed_136 : decode cX6_billed 136 = .ok (.bipush 11, 2) := by decide +kernel
theorem dX6_billed_138 : decode cX6_billed 138 = .ok (.invokestatic 51, 3) := by decide +kernel
theorem dX6_billed_141 : decode cX6_billed 141 = .ok (.bipush (-5), 2) := by decide +kernel
theorem dX6_billed_143 : decode cX6_billed 143 = .ok (.iastore, 1) := by decide +kernel
theorem dX6_billed_144 : decode cX6_billed 144 = .ok (.aload_n 0, 1) := by decide +kernel
theorem dX6_billed_145 : decode cX6_billed 145 = .ok (.getfield 7, 3) := by decide +kernel
theorem dX6_billed_148 : decode cX6_billed 148 = .ok (.bipush 9, 2) := by decide +kernel
theorem dX6_billed_150 : decode cX6_billed 150 = .ok (.iload_n 1, 1) := by decide +kernel
theorem dX6_billed_151 : decode cX6_billed 151 = .ok (.iadd, 1) := by decide +kernel
theorem dX6_billed_152 : decode cX6_billed 152 = .ok (.iaload, 1) := by decide +kernel
theorem dX6_billed_153 : decode cX6_billed 153 = .ok (.ifCond .le 30, 3) := by decide +kernel
theorem dX6_billed_156 : decode cX6_billed 156 = .ok (.aload_n 0, 1) := by decide +kernel
theorem dX6_billed_157 : decode cX6_billed 157 = .ok (.getfield 7, 3) := by decide +kernel
theorem dX6_billed_160 : decode cX6_billed 160 = .ok (.bipush 9, 2) := by decide +kernel
theorem dX6_billed_162 : decode cX6_billed 162 = .ok (.iload_n 1, 1) := by decide +kernel
theorem dX6_billed_163 : decode cX6_billed 163 = .ok (.iadd, 1) := by decide +kernel
theorem dX6_billed_164 : decode cX6_billed 164 = .ok (.dup2, 1) := by decide +kernel
theorem dX6_billed_165 : decode cX6_billed 165 = .ok (.iaload, 1) := by decide +kernel
theorem dX6_billed_166 : decode cX6_billed 166 = .ok (.aload_n 0, 1) := by decide +kernel
theorem dX6_billed_167 : decode cX6_billed 167 = .ok (.iload 5, 2) := by decide +kernel
theorem dX6_billed_169 : decode cX6_billed 169 = .ok (.aload_n 0, 1) := by decide +kernel
theorem dX6_billed_170 : decode cX6_billed 170 = .ok (.getfield 7, 3) := by decide +kernel
theorem dX6_billed_173 : decode cX6_billed 173 = .ok (.bipush 9, 2) := by decide +kernel
theorem dX6_billed_175 : decode cX6_billed 175 = .ok (.iload_n 1, 1) := by decide +kernel
theorem dX6_billed_176 : decode cX6_billed 176 = .ok (.iadd, 1) := by decide +kernel
theorem dX6_billed_177 : decode cX6_billed 177 = .ok (.iaload, 1) := by decide +kernel
theorem dX6_billed_178 : decode cX6_billed 178 = .ok (.invokevirtual 78, 3) := by decide +kernel
theorem dX6_billed_181 : decode cX6_billed 181 = .ok (.isub, 1) := by decide +kernel
theorem dX6_billed_182 : decode cX6_billed 182 = .ok (.iastore, 1) := by decide +kernel
theorem dX6_billed_183 : decode cX6_billed 183 = .ok (.iload 5, 2) := by decide +kernel
theorem dX6_billed_185 : decode cX6_billed 185 = .ok (.ireturn, 1) := by decide +kernel
theorem dX6_paidOn_0 : decode cX6_paidOn 0 = .ok (.aload_n 0, 1) := by decide +kernel
theorem dX6_paidOn_1 : decode cX6_paidOn 1 = .ok (.getfield 7, 3) := by decide +kernel
theorem dX6_paidOn_4 : decode cX6_paidOn 4 = .ok (.iload_n 1, 1) := by decide +kernel
theorem dX6_paidOn_5 : decode cX6_paidOn 5 = .ok (.iconst 0, 1) := by decide +kernel
theorem dX6_paidOn_6 : decode cX6_paidOn 6 = .ok (.invokestatic 51, 3) := by decide +kernel
theorem dX6_paidOn_9 : decode cX6_paidOn 9 = .ok (.iaload, 1) := by decide +kernel
theorem dX6_paidOn_10 : decode cX6_paidOn 10 = .ok (.istore_n 3, 1) := by decide +kernel
theorem dX6_paidOn_11 : decode cX6_paidOn 11 = .ok (.aload_n 0, 1) := by decide +kernel
theorem dX6_paidOn_12 : decode cX6_paidOn 12 = .ok (.getfield 7, 3) := by decide +kernel
theorem dX6_paidOn_15 : decode cX6_paidOn 15 = .ok (.bipush 9, 2) := by decide +kernel
theorem dX6_paidOn_17 : decode cX6_paidOn 17 = .ok (.iload_n 3, 1) := by decide +kernel
theorem dX6_paidOn_18 : decode cX6_paidOn 18 = .ok (.iadd, 1) := by decide +kernel
theorem dX6_paidOn_19 : decode cX6_paidOn 19 = .ok (.dup2, 1) := by decide +kernel
theorem dX6_paidOn_20 : decode cX6_paidOn 20 = .ok (.iaload, 1) := by decide +kernel
theorem dX6_paidOn_21 : decode cX6_paidOn 21 = .ok (.iload_n 2, 1) := by decide +kernel
theorem dX6_paidOn_22 : decode cX6_paidOn 22 = .ok (.aload_n 0, 1) := by decide +kernel
theorem dX6_paidOn_23 : decode cX6_paidOn 23 = .ok (.iload_n 1, 1) := by decide +kernel
theorem dX6_paidOn_24 : decode cX6_paidOn 24 = .ok (.iload_n 2, 1) := by decide +kernel
theorem dX6_paidOn_25 : decode cX6_paidOn 25 = .ok (.invokevirtual 78, 3) := by decide +kernel
theorem dX6_paidOn_28 : decode cX6_paidOn 28 = .ok (.isub, 1) := by decide +kernel
theorem dX6_paidOn_29 : decode cX6_paidOn 29 = .ok (.iadd, 1) := by decide +kernel
theorem dX6_paidOn_30 : decode cX6_paidOn 30 = .ok (.iastore, 1) := by decide +kernel
theorem dX6_paidOn_31 : decode cX6_paidOn 31 = .ok (.aload_n 0, 1) := by decide +kernel
theorem dX6_paidOn_32 : decode cX6_paidOn 32 = .ok (.getfield 7, 3) := by decide +kernel
theorem dX6_paidOn_35 : decode cX6_paidOn 35 = .ok (.bipush 17, 2) := by decide +kernel
theorem dX6_paidOn_37 : decode cX6_paidOn 37 = .ok (.iload_n 3, 1) := by decide +kernel
theorem dX6_paidOn_38 : decode cX6_paidOn 38 = .ok (.iadd, 1) := by decide +kernel
theorem dX6_paidOn_39 : decode cX6_paidOn 39 = .ok (.dup2, 1) := by decide +kernel
theorem dX6_paidOn_40 : decode cX6_paidOn 40 = .ok (.iaload, 1) := by decide +kernel
theorem dX6_paidOn_41 : decode cX6_paidOn 41 = .ok (.iload_n 2, 1) := by decide +kernel
theorem dX6_paidOn_42 : decode cX6_paidOn 42 = .ok (.iadd, 1) := by decide +kernel
theorem dX6_paidOn_43 : decode cX6_paidOn 43 = .ok (.iastore, 1) := by decide +kernel
theorem dX6_paidOn_44 : decode cX6_paidOn 44 = .ok (.aload_n 0, 1) := by decide +kernel
theorem dX6_paidOn_45 : decode cX6_paidOn 45 = .ok (.iload_n 1, 1) := by decide +kernel
theorem dX6_paidOn_46 : decode cX6_paidOn 46 = .ok (.invokevirtual 69, 3) := by decide +kernel
theorem dX6_paidOn_49 : decode cX6_paidOn 49 = .ok (.ireturn, 1) := by decide +kernel
theorem dX6_isOverdue_0 : decode cX6_isOverdue 0 = .ok (.aload_n 0, 1) := by decide +kernel
theorem dX6_isOverdue_1 : decode cX6_isOverdue 1 = .ok (.iload_n 1, 1) := by decide +kernel
theorem dX6_isOverdue_2 : decode cX6_isOverdue 2 = .ok (.iconst 0, 1) := by decide +kernel
theorem dX6_isOverdue_3 : decode cX6_isOverdue 3 = .ok (.invokevirtual 62, 3) := by decide +kernel
theorem dX6_isOverdue_6 : decode cX6_isOverdue 6 = .ok (.ifCond .eq 34, 3) := by decide +kernel
theorem dX6_isOverdue_9 : decode cX6_isOverdue 9 = .ok (.aload_n 0, 1) := by decide +kernel
theorem dX6_isOverdue_10 : decode cX6_isOverdue 10 = .ok (.aload_n 0, 1) := by decide +kernel
theorem dX6_isOverdue_11 : decode cX6_isOverdue 11 = .ok (.getfield 7, 3) := by decide +kernel
theorem dX6_isOverdue_14 : decode cX6_isOverdue 14 = .ok (.iload_n 1, 1) := by decide +kernel
theorem dX6_isOverdue_15 : decode cX6_isOverdue 15 = .ok (.iconst 3, 1) := by decide +kernel
theorem dX6_isOverdue_16 : decode cX6_isOverdue 16 = .ok (.invokestatic 51, 3) := by decide +kernel
theorem dX6_isOverdue_19 : decode cX6_isOverdue 19 = .ok (.iaload, 1) := by decide +kernel
theorem dX6_isOverdue_20 : decode cX6_isOverdue 20 = .ok (.invokevirtual 66, 3) := by decide +kernel
theorem dX6_isOverdue_23 : decode cX6_isOverdue 23 = .ok (.aload_n 0, 1) := by decide +kernel
theorem dX6_isOverdue_24 : decode cX6_isOverdue 24 = .ok (.getfield 7, 3) := by decide +kernel
theorem dX6_isOverdue_27 : decode cX6_isOverdue 27 = .ok (.iload_n 1, 1) := by decide +kernel
theorem dX6_isOverdue_28 : decode cX6_isOverdue 28 = .ok (.iconst 4, 1) := by decide +kernel
theorem dX6_isOverdue_29 : decode cX6_isOverdue 29 = .ok (.invokestatic 51, 3) := by decide +kernel
theorem dX6_isOverdue_32 : decode cX6_isOverdue 32 = .ok (.iaload, 1) := by decide +kernel
theorem dX6_isOverdue_33 : decode cX6_isOverdue 33 = .ok (.if_icmp .le 7, 3) := by decide +kernel
theorem dX6_isOverdue_36 : decode cX6_isOverdue 36 = .ok (.iconst 1, 1) := by decide +kernel
theorem dX6_isOverdue_37 : decode cX6_isOverdue 37 = .ok (.goto 4, 3) := by decide +kernel
theorem dX6_isOverdue_40 : decode cX6_isOverdue 40 = .ok (.iconst 0, 1) := by decide +kernel
theorem dX6_isOverdue_41 : decode cX6_isOverdue 41 = .ok (.ireturn, 1) := by decide +kernel
theorem dX6_dueDay_0 : decode cX6_dueDay 0 = .ok (.aload_n 0, 1) := by decide +kernel
theorem dX6_dueDay_1 : decode cX6_dueDay 1 = .ok (.getfield 7, 3) := by decide +kernel
theorem dX6_dueDay_4 : decode cX6_dueDay 4 = .ok (.iload_n 1, 1) := by decide +kernel
theorem dX6_dueDay_5 : decode cX6_dueDay 5 = .ok (.iconst 3, 1) := by decide +kernel
theorem dX6_dueDay_6 : decode cX6_dueDay 6 = .ok (.invokestatic 51, 3) := by decide +kernel
theorem dX6_dueDay_9 : decode cX6_dueDay 9 = .ok (.iaload, 1) := by decide +kernel
theorem dX6_dueDay_10 : decode cX6_dueDay 10 = .ok (.aload_n 0, 1) := by decide +kernel
theorem dX6_dueDay_11 : decode cX6_dueDay 11 = .ok (.getfield 7, 3) := by decide +kernel
theorem dX6_dueDay_14 : decode cX6_dueDay 14 = .ok (.iload_n 1, 1) := by decide +kernel
theorem dX6_dueDay_15 : decode cX6_dueDay 15 = .ok (.iconst 4, 1) := by decide +kernel
theorem dX6_dueDay_16 : decode cX6_dueDay 16 = .ok (.invokestatic 51, 3) := by decide +kernel
theorem dX6_dueDay_19 : decode cX6_dueDay 19 = .ok (.iaload, 1) := by decide +kernel
theorem dX6_dueDay_20 : decode cX6_dueDay 20 = .ok (.iadd, 1) := by decide +kernel
theorem dX6_dueDay_21 : decode cX6_dueDay 21 = .ok (.ireturn, 1) := by decide +kernel
theorem dX6_countedFrom_0 : decode cX6_countedFrom 0 = .ok (.aload_n 0, 1) := by decide +kernel
theorem dX6_countedFrom_1 : decode cX6_countedFrom 1 = .ok (.getfield 7, 3) := by decide +kernel
theorem dX6_countedFrom_4 : decode cX6_countedFrom 4 = .ok (.iload_n 1, 1) := by decide +kernel
theorem dX6_countedFrom_5 : decode cX6_countedFrom 5 = .ok (.bipush 9, 2) := by decide +kernel
theorem dX6_countedFrom_7 : decode cX6_countedFrom 7 = .ok (.invokestatic 51, 3) := by decide +kernel
theorem dX6_countedFrom_10 : decode cX6_countedFrom 10 = .ok (.iaload, 1) := by decide +kernel
theorem dX6_countedFrom_11 : decode cX6_countedFrom 11 = .ok (.ifCond .ne 11, 3) := by decide +kernel
theorem dX6_countedFrom_14 : decode cX6_countedFrom 14 = .ok (.aload_n 0, 1) := by decide +kernel
theorem dX6_countedFrom_15 : decode cX6_countedFrom 15 = .ok (.iload_n 1, 1) := by decide +kernel
theorem dX6_countedFrom_16 : decode cX6_countedFrom 16 = .ok (.invokevirtual 82, 3) := by decide +kernel
theorem dX6_countedFrom_19 : decode cX6_countedFrom 19 = .ok (.goto 14, 3) := by decide +kernel
theorem dX6_countedFrom_22 : decode cX6_countedFrom 22 = .ok (.aload_n 0, 1) := by decide +kernel
theorem dX6_countedFrom_23 : decode cX6_countedFrom 23 = .ok (.getfield 7, 3) := by decide +kernel
theorem dX6_countedFrom_26 : decode cX6_countedFrom 26 = .ok (.iload_n 1, 1) := by decide +kernel
theorem dX6_countedFrom_27 : decode cX6_countedFrom 27 = .ok (.bipush 10, 2) := by decide +kernel
theorem dX6_countedFrom_29 : decode cX6_countedFrom 29 = .ok (.invokestatic 51, 3) := by decide +kernel
theorem dX6_countedFrom_32 : decode cX6_countedFrom 32 = .ok (.iaload, 1) := by decide +kernel
theorem dX6_countedFrom_33 : decode cX6_countedFrom 33 = .ok (.ireturn, 1) := by decide +kernel
theorem dX6_why_0 : decode cX6_why 0 = .ok (.aload_n 0, 1) := by decide +kernel
theorem dX6_why_1 : decode cX6_why 1 = .ok (.iload_n 1, 1) := by decide +kernel
theorem dX6_why_2 : decode cX6_why 2 = .ok (.iconst 0, 1) := by decide +kernel
theorem dX6_why_3 : decode cX6_why 3 = .ok (.invokevirtual 62, 3) := by decide +kernel
theorem dX6_why_6 : decode cX6_why 6 = .ok (.ifCond .ne 18, 3) := by decide +kernel
theorem dX6_why_9 : decode cX6_why 9 = .ok (.aload_n 0, 1) := by decide +kernel
theorem dX6_why_10 : decode cX6_why 10 = .ok (.iload_n 1, 1) := by decide +kernel
theorem dX6_why_11 : decode cX6_why 11 = .ok (.iconst 1, 1) := by decide +kernel
theorem dX6_why_12 : decode cX6_why 12 = .ok (.invokevirtual 62, 3) := by decide +kernel
theorem dX6_why_15 : decode cX6_why 15 = .ok (.ifCond .eq 7, 3) := by decide +kernel
theorem dX6_why_18 : decode cX6_why 18 = .ok (.iconst 1, 1) := by decide +kernel
theorem dX6_why_19 : decode cX6_why 19 = .ok (.goto 4, 3) := by decide +kernel
theorem dX6_why_22 : decode cX6_why 22 = .ok (.iconst 2, 1) := by decide +kernel
theorem dX6_why_23 : decode cX6_why 23 = .ok (.ireturn, 1) := by decide +kernel
theorem dX6_why_24 : decode cX6_why 24 = .ok (.aload_n 0, 1) := by decide +kernel
theorem dX6_why_25 : decode cX6_why 25 = .ok (.iload_n 1, 1) := by decide +kernel
theorem dX6_why_26 : decode cX6_why 26 = .ok (.invokevirtual 85, 3) := by decide +kernel
theorem dX6_why_29 : decode cX6_why 29 = .ok (.ifCond .ne 7, 3) := by decide +kernel
theorem dX6_why_32 : decode cX6_why 32 = .ok (.iconst 3, 1) := by decide +kernel
theorem dX6_why_33 : decode cX6_why 33 = .ok (.goto 45, 3) := by decide +kernel
theorem dX6_why_36 : decode cX6_why 36 = .ok (.aload_n 0, 1) := by decide +kernel
theorem dX6_why_37 : decode cX6_why 37 = .ok (.getfield 7, 3) := by decide +kernel
theorem dX6_why_40 : decode cX6_why 40 = .ok (.iload_n 1, 1) := by decide +kernel
theorem dX6_why_41 : decode cX6_why 41 = .ok (.bipush 9, 2) := by decide +kernel
theorem dX6_why_43 : decode cX6_why 43 = .ok (.invokestatic 51, 3) := by decide +kernel
theorem dX6_why_46 : decode cX6_why 46 = .ok (.iaload, 1) := by decide +kernel
theorem dX6_why_47 : decode cX6_why 47 = .ok (.iconst 3, 1) := by decide +kernel
theorem dX6_why_48 : decode cX6_why 48 = .ok (.if_icmp .ne 7, 3) := by decide +kernel
theorem dX6_why_51 : decode cX6_why 51 = .ok (.iconst 4, 1) := by decide +kernel
theorem dX6_why_52 : decode cX6_why 52 = .ok (.goto 26, 3) := by decide +kernel
theorem dX6_why_55 : decode cX6_why 55 = .ok (.aload_n 0, 1) := by decide +kernel
theorem dX6_why_56 : decode cX6_why 56 = .ok (.aload_n 0, 1) := by decide +kernel
theorem dX6_why_57 : decode cX6_why 57 = .ok (.iload_n 1, 1) := by decide +kernel
theorem dX6_why_58 : decode cX6_why 58 = .ok (.invokevirtual 89, 3) := by decide +kernel
theorem dX6_why_61 : decode cX6_why 61 = .ok (.invokevirtual 66, 3) := by decide +kernel
theorem dX6_why_64 : decode cX6_why 64 = .ok (.aload_n 0, 1) := by decide +kernel
theorem dX6_why_65 : decode cX6_why 65 = .ok (.getfield 7, 3) := by decide +kernel
theorem dX6_why_68 : decode cX6_why 68 = .ok (.iconst 3, 1) := by decide +kernel
theorem dX6_why_69 : decode cX6_why 69 = .ok (.iaload, 1) := by decide +kernel
theorem dX6_why_70 : decode cX6_why 70 = .ok (.if_icmp .ge 7, 3) := by decide +kernel
theorem dX6_why_73 : decode cX6_why 73 = .ok (.iconst 5, 1) := by decide +kernel
theorem dX6_why_74 : decode cX6_why 74 = .ok (.goto 4, 3) := by decide +kernel
theorem dX6_why_77 : decode cX6_why 77 = .ok (.iconst 0, 1) := by decide +kernel
theorem dX6_why_78 : decode cX6_why 78 = .ok (.ireturn, 1) := by decide +kernel
theorem dX6_reminds_0 : decode cX6_reminds 0 = .ok (.iconst 0, 1) := by decide +kernel
theorem dX6_reminds_1 : decode cX6_reminds 1 = .ok (.istore_n 1, 1) := by decide +kernel
theorem dX6_reminds_2 : decode cX6_reminds 2 = .ok (.iconst 0, 1) := by decide +kernel
theorem dX6_reminds_3 : decode cX6_reminds 3 = .ok (.istore_n 2, 1) := by decide +kernel
theorem dX6_reminds_4 : decode cX6_reminds 4 = .ok (.iload_n 2, 1) := by decide +kernel
theorem dX6_reminds_5 : decode cX6_reminds 5 = .ok (.aload_n 0, 1) := by decide +kernel
theorem dX6_reminds_6 : decode cX6_reminds 6 = .ok (.getfield 7, 3) := by decide +kernel
theorem dX6_reminds_9 : decode cX6_reminds 9 = .ok (.bipush 6, 2) := by decide +kernel
theorem dX6_reminds_11 : decode cX6_reminds 11 = .ok (.iaload, 1) := by decide +kernel
theorem dX6_reminds_12 : decode cX6_reminds 12 = .ok (.if_icmp .ge 84, 3) := by decide +kernel
theorem dX6_reminds_15 : decode cX6_reminds 15 = .ok (.aload_n 0, 1) := by decide +kernel
theorem dX6_reminds_16 : decode cX6_reminds 16 = .ok (.iload_n 2, 1) := by decide +kernel
theorem dX6_reminds_17 : decode cX6_reminds 17 = .ok (.invokevirtual 92, 3) := by decide +kernel
theorem dX6_reminds_20 : decode cX6_reminds 20 = .ok (.ifCond .ne 70, 3) := by decide +kernel
theorem dX6_reminds_23 : decode cX6_reminds 23 = .ok (.aload_n 0, 1) := by decide +kernel
theorem dX6_reminds_24 : decode cX6_reminds 24 = .ok (.getfield 7, 3) := by decide +kernel
theorem dX6_reminds_27 : decode cX6_reminds 27 = .ok (.iload_n 2, 1) := by decide +kernel
theorem dX6_reminds_28 : decode cX6_reminds 28 = .ok (.bipush 8, 2) := by decide +kernel
theorem dX6_reminds_30 : decode cX6_reminds 30 = .ok (.invokestatic 51, 3) := by decide +kernel
theorem dX6_reminds_33 : decode cX6_reminds 33 = .ok (.dup2, 1) := by decide +kernel
theorem dX6_reminds_34 : decode cX6_reminds 34 = .ok (.iaload, 1) := by decide +kernel
theorem dX6_reminds_35 : decode cX6_reminds 35 = .ok (.aload_n 0, 1) := by decide +kernel
theorem dX6_reminds_36 : decode cX6_reminds 36 = .ok (.getfield 7, 3) := by decide +kernel
theorem dX6_reminds_39 : decode cX6_reminds 39 = .ok (.iload_n 2, 1) := by decide +kernel
theorem dX6_reminds_40 : decode cX6_reminds 40 = .ok (.bipush 9, 2) := by decide +kernel
theorem dX6_reminds_42 : decode cX6_reminds 42 = .ok (.invokestatic 51, 3) := by decide +kernel
theorem dX6_reminds_45 : decode cX6_reminds 45 = .ok (.iaload, 1) := by decide +kernel
theorem dX6_reminds_46 : decode cX6_reminds 46 = .ok (.aload_n 0, 1) := by decide +kernel
theorem dX6_reminds_47 : decode cX6_reminds 47 = .ok (.getfield 7, 3) := by decide +kernel
theorem dX6_reminds_50 : decode cX6_reminds 50 = .ok (.iconst 4, 1) := by decide +kernel
theorem dX6_reminds_51 : decode cX6_reminds 51 = .ok (.iaload, 1) := by decide +kernel
theorem dX6_reminds_52 : decode cX6_reminds 52 = .ok (.imul, 1) := by decide +kernel
theorem dX6_reminds_53 : decode cX6_reminds 53 = .ok (.iadd, 1) := by decide +kernel
theorem dX6_reminds_54 : decode cX6_reminds 54 = .ok (.iastore, 1) := by decide +kernel
theorem dX6_reminds_55 : decode cX6_reminds 55 = .ok (.aload_n 0, 1) := by decide +kernel
theorem dX6_reminds_56 : decode cX6_reminds 56 = .ok (.getfield 7, 3) := by decide +kernel
theorem dX6_reminds_59 : decode cX6_reminds 59 = .ok (.iload_n 2, 1) := by decide +kernel
theorem dX6_reminds_60 : decode cX6_reminds 60 = .ok (.bipush 9, 2) := by decide +kernel
theorem dX6_reminds_62 : decode cX6_reminds 62 = .ok (.invokestatic 51, 3) := by decide +kernel
theorem dX6_reminds_65 : decode cX6_reminds 65 = .ok (.dup2, 1) := by decide +kernel
theorem dX6_reminds_66 : decode cX6_reminds 66 = .ok (.iaload, 1) := by decide +kernel
theorem dX6_reminds_67 : decode cX6_reminds 67 = .ok (.iconst 1, 1) := by decide +kernel
theorem dX6_reminds_68 : decode cX6_reminds 68 = .ok (.iadd, 1) := by decide +kernel
theorem dX6_reminds_69 : decode cX6_reminds 69 = .ok (.iastore, 1) := by decide +kernel
theorem dX6_reminds_70 : decode cX6_reminds 70 = .ok (.aload_n 0, 1) := by decide +kernel
theorem dX6_reminds_71 : decode cX6_reminds 71 = .ok (.getfield 7, 3) := by decide +kernel
theorem dX6_reminds_74 : decode cX6_reminds 74 = .ok (.iload_n 2, 1) := by decide +kernel
theorem dX6_reminds_75 : decode cX6_reminds 75 = .ok (.bipush 10, 2) := by decide +kernel
theorem dX6_reminds_77 : decode cX6_reminds 77 = .ok (.invokestatic 51, 3) := by decide +kernel
theorem dX6_reminds_80 : decode cX6_reminds 80 = .ok (.aload_n 0, 1) := by decide +kernel
theorem dX6_reminds_81 : decode cX6_reminds 81 = .ok (.getfield 7, 3) := by decide +kernel
theorem dX6_reminds_84 : decode cX6_reminds 84 = .ok (.iconst 0, 1) := by decide +kernel
theorem dX6_reminds_85 : decode cX6_reminds 85 = .ok (.iaload, 1) := by decide +kernel
theorem dX6_reminds_86 : decode cX6_reminds 86 = .ok (.iastore, 1) := by decide +kernel
theorem dX6_reminds_87 : decode cX6_reminds 87 = .ok (.iinc 1 1, 3) := by decide +kernel
theorem dX6_reminds_90 : decode cX6_reminds 90 = .ok (.iinc 2 1, 3) := by decide +kernel
theorem dX6_reminds_93 : decode cX6_reminds 93 = .ok (.goto (-89), 3) := by decide +kernel
theorem dX6_reminds_96 : decode cX6_reminds 96 = .ok (.iload_n 1, 1) := by decide +kernel
theorem dX6_reminds_97 : decode cX6_reminds 97 = .ok (.ireturn, 1) := by decide +kernel
theorem dX6_isNet_0 : decode cX6_isNet 0 = .ok (.iload_n 0, 1) := by decide +kernel
theorem dX6_isNet_1 : decode cX6_isNet 1 = .ok (.iconst 1, 1) := by decide +kernel
theorem dX6_isNet_2 : decode cX6_isNet 2 = .ok (.sipush 9999, 3) := by decide +kernel
theorem dX6_isNet_5 : decode cX6_isNet 5 = .ok (.invokestatic 38, 3) := by decide +kernel
theorem dX6_isNet_8 : decode cX6_isNet 8 = .ok (.ifCond .eq 27, 3) := by decide +kernel
theorem dX6_isNet_11 : decode cX6_isNet 11 = .ok (.iload_n 1, 1) := by decide +kernel
theorem dX6_isNet_12 : decode cX6_isNet 12 = .ok (.iconst 0, 1) := by decide +kernel
theorem dX6_isNet_13 : decode cX6_isNet 13 = .ok (.bipush 40, 2) := by decide +kernel
theorem dX6_isNet_15 : decode cX6_isNet 15 = .ok (.invokestatic 38, 3) := by decide +kernel
theorem dX6_isNet_18 : decode cX6_isNet 18 = .ok (.ifCond .eq 17, 3) := by decide +kernel
theorem dX6_isNet_21 : decode cX6_isNet 21 = .ok (.iload_n 2, 1) := by decide +kernel
theorem dX6_isNet_22 : decode cX6_isNet 22 = .ok (.iconst 0, 1) := by decide +kernel
theorem dX6_isNet_23 : decode cX6_isNet 23 = .ok (.bipush 99, 2) := by decide +kernel
theorem dX6_isNet_25 : decode cX6_isNet 25 = .ok (.invokestatic 38, 3) := by decide +kernel
theorem dX6_isNet_28 : decode cX6_isNet 28 = .ok (.ifCond .eq 7, 3) := by decide +kernel
theorem dX6_isNet_31 : decode cX6_isNet 31 = .ok (.iconst 1, 1) := by decide +kernel
theorem dX6_isNet_32 : decode cX6_isNet 32 = .ok (.goto 4, 3) := by decide +kernel
theorem dX6_isNet_35 : decode cX6_isNet 35 = .ok (.iconst 0, 1) := by decide +kernel
theorem dX6_isNet_36 : decode cX6_isNet 36 = .ok (.ireturn, 1) := by decide +kernel
theorem dX6_isAmount_0 : decode cX6_isAmount 0 = .ok (.iload_n 0, 1) := by decide +kernel
theorem dX6_isAmount_1 : decode cX6_isAmount 1 = .ok (.iconst 1, 1) := by decide +kernel
theorem dX6_isAmount_2 : decode cX6_isAmount 2 = .ok (.ldc 95, 2) := by decide +kernel
theorem dX6_isAmount_4 : decode cX6_isAmount 4 = .ok (.invokestatic 38, 3) := by decide +kernel
theorem dX6_isAmount_7 : decode cX6_isAmount 7 = .ok (.ireturn, 1) := by decide +kernel
theorem dX6_bill_0 : decode cX6_bill 0 = .ok (.iload_n 1, 1) := by decide +kernel
theorem dX6_bill_1 : decode cX6_bill 1 = .ok (.invokestatic 96, 3) := by decide +kernel
theorem dX6_bill_4 : decode cX6_bill 4 = .ok (.ifCond .ne 5, 3) := by decide +kernel
theorem dX6_bill_7 : decode cX6_bill 7 = .ok (.iconst (-1), 1) := by decide +kernel
theorem dX6_bill_8 : decode cX6_bill 8 = .ok (.ireturn, 1) := by decide +kernel
theorem dX6_bill_9 : decode cX6_bill 9 = .ok (.iload_n 2, 1) := by decide +kernel
theorem dX6_bill_10 : decode cX6_bill 10 = .ok (.iload_n 3, 1) := by decide +kernel
theorem dX6_bill_11 : decode cX6_bill 11 = .ok (.iload 4, 2) := by decide +kernel
theorem dX6_bill_13 : decode cX6_bill 13 = .ok (.invokestatic 99, 3) := by decide +kernel
theorem dX6_bill_16 : decode cX6_bill 16 = .ok (.ifCond .ne 6, 3) := by decide +kernel
theorem dX6_bill_19 : decode cX6_bill 19 = .ok (.bipush (-2), 2) := by decide +kernel
theorem dX6_bill_21 : decode cX6_bill 21 = .ok (.ireturn, 1) := by decide +kernel
theorem dX6_bill_22 : decode cX6_bill 22 = .ok (.aload_n 0, 1) := by decide +kernel
theorem dX6_bill_23 : decode cX6_bill 23 = .ok (.getfield 7, 3) := by decide +kernel
theorem dX6_bill_26 : decode cX6_bill 26 = .ok (.bipush 6, 2) := by decide +kernel
theorem dX6_bill_28 : decode cX6_bill 28 = .ok (.iaload, 1) := by decide +kernel
theorem dX6_bill_29 : decode cX6_bill 29 = .ok (.bipush 40, 2) := by decide +kernel
theorem dX6_bill_31 : decode cX6_bill 31 = .ok (.if_icmp .ne 6, 3) := by decide +kernel
theorem dX6_bill_34 : decode cX6_bill 34 = .ok (.bipush (-3), 2) := by decide +kernel
theorem dX6_bill_36 : decode cX6_bill 36 = .ok (.ireturn, 1) := by decide +kernel
theorem dX6_bill_37 : decode cX6_bill 37 = .ok (.aload_n 0, 1) := by decide +kernel
theorem dX6_bill_38 : decode cX6_bill 38 = .ok (.invokevirtual 102, 3) := by decide +kernel
theorem dX6_bill_41 : decode cX6_bill 41 = .ok (.aload_n 0, 1) := by decide +kernel
theorem dX6_bill_42 : decode cX6_bill 42 = .ok (.iload_n 1, 1) := by decide +kernel
theorem dX6_bill_43 : decode cX6_bill 43 = .ok (.iload_n 2, 1) := by decide +kernel
theorem dX6_bill_44 : decode cX6_bill 44 = .ok (.iload_n 3, 1) := by decide +kernel
theorem dX6_bill_45 : decode cX6_bill 45 = .ok (.iload 4, 2) := by decide +kernel
theorem dX6_bill_47 : decode cX6_bill 47 = .ok (.invokevirtual 105, 3) := by decide +kernel
theorem dX6_bill_50 : decode cX6_bill 50 = .ok (.ireturn, 1) := by decide +kernel
theorem dX6_wouldBeTooMuch_0 : decode cX6_wouldBeTooMuch 0 = .ok (.aload_n 0, 1) := by decide +kernel
theorem dX6_wouldBeTooMuch_1 : decode cX6_wouldBeTooMuch 1 = .ok (.invokevirtual 109, 3) := by decide +kernel
theorem dX6_wouldBeTooMuch_4 : decode cX6_wouldBeTooMuch 4 = .ok (.aload_n 0, 1) := by decide +kernel
theorem dX6_wouldBeTooMuch_5 : decode cX6_wouldBeTooMuch 5 = .ok (.iload_n 1, 1) := by decide +kernel
theorem dX6_wouldBeTooMuch_6 : decode cX6_wouldBeTooMuch 6 = .ok (.iload_n 2, 1) := by decide +kernel
theorem dX6_wouldBeTooMuch_7 : decode cX6_wouldBeTooMuch 7 = .ok (.invokevirtual 112, 3) := by decide +kernel
theorem dX6_wouldBeTooMuch_10 : decode cX6_wouldBeTooMuch 10 = .ok (.istore_n 3, 1) := by decide +kernel
theorem dX6_wouldBeTooMuch_11 : decode cX6_wouldBeTooMuch 11 = .ok (.aload_n 0, 1) := by decide +kernel
theorem dX6_wouldBeTooMuch_12 : decode cX6_wouldBeTooMuch 12 = .ok (.invokevirtual 115, 3) := by decide +kernel
theorem dX6_wouldBeTooMuch_15 : decode cX6_wouldBeTooMuch 15 = .ok (.istore 4, 2) := by decide +kernel
theorem dX6_wouldBeTooMuch_17 : decode cX6_wouldBeTooMuch 17 = .ok (.aload_n 0, 1) := by decide +kernel
theorem dX6_wouldBeTooMuch_18 : decode cX6_wouldBeTooMuch 18 = .ok (.invokevirtual 119, 3) := by decide +kernel
theorem dX6_wouldBeTooMuch_21 : decode cX6_wouldBeTooMuch 21 = .ok (.iload 4, 2) := by decide +kernel
theorem dX6_wouldBeTooMuch_23 : decode cX6_wouldBeTooMuch 23 = .ok (.ireturn, 1) := by decide +kernel
theorem dX6_pay_0 : decode cX6_pay 0 = .ok (.iload_n 1, 1) := by decide +kernel
theorem dX6_pay_1 : decode cX6_pay 1 = .ok (.invokestatic 96, 3) := by decide +kernel
theorem dX6_pay_4 : decode cX6_pay 4 = .ok (.ifCond .ne 5, 3) := by decide +kernel
theorem dX6_pay_7 : decode cX6_pay 7 = .ok (.iconst (-1), 1) := by decide +kernel
theorem dX6_pay_8 : decode cX6_pay 8 = .ok (.ireturn, 1) := by decide +kernel
theorem dX6_pay_9 : decode cX6_pay 9 = .ok (.iload_n 2, 1) := by decide +kernel
theorem dX6_pay_10 : decode cX6_pay 10 = .ok (.invokestatic 122, 3) := by decide +kernel
theorem dX6_pay_13 : decode cX6_pay 13 = .ok (.ifCond .ne 6, 3) := by decide +kernel
theorem dX6_pay_16 : decode cX6_pay 16 = .ok (.bipush (-2), 2) := by decide +kernel
theorem dX6_pay_18 : decode cX6_pay 18 = .ok (.ireturn, 1) := by decide +kernel
theorem dX6_pay_19 : decode cX6_pay 19 = .ok (.aload_n 0, 1) := by decide +kernel
theorem dX6_pay_20 : decode cX6_pay 20 = .ok (.iload_n 1, 1) := by decide +kernel
theorem dX6_pay_21 : decode cX6_pay 21 = .ok (.iload_n 2, 1) := by decide +kernel
theorem dX6_pay_22 : decode cX6_pay 22 = .ok (.invokevirtual 125, 3) := by decide +kernel
theorem dX6_pay_25 : decode cX6_pay 25 = .ok (.ifCond .eq 6, 3) := by decide +kernel
theorem dX6_pay_28 : decode cX6_pay 28 = .ok (.bipush (-3), 2) := by decide +kernel
theorem dX6_pay_30 : decode cX6_pay 30 = .ok (.ireturn, 1) := by decide +kernel
theorem dX6_pay_31 : decode cX6_pay 31 = .ok (.aload_n 0, 1) := by decide +kernel
theorem dX6_pay_32 : decode cX6_pay 32 = .ok (.invokevirtual 102, 3) := by decide +kernel
theorem dX6_pay_35 : decode cX6_pay 35 = .ok (.aload_n 0, 1) := by decide +kernel
theorem dX6_pay_36 : decode cX6_pay 36 = .ok (.iload_n 1, 1) := by decide +kernel
theorem dX6_pay_37 : decode cX6_pay 37 = .ok (.iload_n 2, 1) := by decide +kernel
theorem dX6_pay_38 : decode cX6_pay 38 = .ok (.invokevirtual 112, 3) := by decide +kernel
theorem dX6_pay_41 : decode cX6_pay 41 = .ok (.ireturn, 1) := by decide +kernel
theorem dX6_refusalOn_0 : decode cX6_refusalOn 0 = .ok (.aload_n 0, 1) := by decide +kernel
theorem dX6_refusalOn_1 : decode cX6_refusalOn 1 = .ok (.iload_n 1, 1) := by decide +kernel
theorem dX6_refusalOn_2 : decode cX6_refusalOn 2 = .ok (.iconst 1, 1) := by decide +kernel
theorem dX6_refusalOn_3 : decode cX6_refusalOn 3 = .ok (.invokevirtual 62, 3) := by decide +kernel
theorem dX6_refusalOn_6 : decode cX6_refusalOn 6 = .ok (.ifCond .eq 6, 3) := by decide +kernel
theorem dX6_refusalOn_9 : decode cX6_refusalOn 9 = .ok (.bipush (-4), 2) := by decide +kernel
theorem dX6_refusalOn_11 : decode cX6_refusalOn 11 = .ok (.ireturn, 1) := by decide +kernel
theorem dX6_refusalOn_12 : decode cX6_refusalOn 12 = .ok (.aload_n 0, 1) := by decide +kernel
theorem dX6_refusalOn_13 : decode cX6_refusalOn 13 = .ok (.invokevirtual 109, 3) := by decide +kernel
theorem dX6_refusalOn_16 : decode cX6_refusalOn 16 = .ok (.aload_n 0, 1) := by decide +kernel
theorem dX6_refusalOn_17 : decode cX6_refusalOn 17 = .ok (.iload_n 1, 1) := by decide +kernel
theorem dX6_refusalOn_18 : decode cX6_refusalOn 18 = .ok (.iload_n 2, 1) := by decide +kernel
theorem dX6_refusalOn_19 : decode cX6_refusalOn 19 = .ok (.invokevirtual 128, 3) := by decide +kernel
theorem dX6_refusalOn_22 : decode cX6_refusalOn 22 = .ok (.istore_n 3, 1) := by decide +kernel
theorem dX6_refusalOn_23 : decode cX6_refusalOn 23 = .ok (.aload_n 0, 1) := by decide +kernel
theorem dX6_refusalOn_24 : decode cX6_refusalOn 24 = .ok (.invokevirtual 115, 3) := by decide +kernel
theorem dX6_refusalOn_27 : decode cX6_refusalOn 27 = .ok (.istore 4, 2) := by decide +kernel
theorem dX6_refusalOn_29 : decode cX6_refusalOn 29 = .ok (.aload_n 0, 1) := by decide +kernel
theorem dX6_refusalOn_30 : decode cX6_refusalOn 30 = .ok (.invokevirtual 119, 3) := by decide +kernel
theorem dX6_refusalOn_33 : decode cX6_refusalOn 33 = .ok (.iload 4, 2) := by decide +kernel
theorem dX6_refusalOn_35 : decode cX6_refusalOn 35 = .ok (.ifCond .eq 8, 3) := by decide +kernel
theorem dX6_refusalOn_38 : decode cX6_refusalOn 38 = .ok (.bipush (-3), 2) := by decide +kernel
theorem dX6_refusalOn_40 : decode cX6_refusalOn 40 = .ok (.goto 4, 3) := by decide +kernel
theorem dX6_refusalOn_43 : decode cX6_refusalOn 43 = .ok (.iconst 0, 1) := by decide +kernel
theorem dX6_refusalOn_44 : decode cX6_refusalOn 44 = .ok (.ireturn, 1) := by decide +kernel
theorem dX6_payBill_0 : decode cX6_payBill 0 = .ok (.aload_n 0, 1) := by decide +kernel
theorem dX6_payBill_1 : decode cX6_payBill 1 = .ok (.iload_n 1, 1) := by decide +kernel
theorem dX6_payBill_2 : decode cX6_payBill 2 = .ok (.invokevirtual 131, 3) := by decide +kernel
theorem dX6_payBill_5 : decode cX6_payBill 5 = .ok (.ifCond .ne 5, 3) := by decide +kernel
theorem dX6_payBill_8 : decode cX6_payBill 8 = .ok (.iconst (-1), 1) := by decide +kernel
theorem dX6_payBill_9 : decode cX6_payBill 9 = .ok (.ireturn, 1) := by decide +kernel
theorem dX6_payBill_10 : decode cX6_payBill 10 = .ok (.iload_n 2, 1) := by decide +kernel
theorem dX6_payBill_11 : decode cX6_payBill 11 = .ok (.invokestatic 122, 3) := by decide +kernel
theorem dX6_payBill_14 : decode cX6_payBill 14 = .ok (.ifCond .ne 6, 3) := by decide +kernel
theorem dX6_payBill_17 : decode cX6_payBill 17 = .ok (.bipush (-2), 2) := by decide +kernel
theorem dX6_payBill_19 : decode cX6_payBill 19 = .ok (.ireturn, 1) := by decide +kernel
theorem dX6_payBill_20 : decode cX6_payBill 20 = .ok (.aload_n 0, 1) := by decide +kernel
theorem dX6_payBill_21 : decode cX6_payBill 21 = .ok (.iload_n 1, 1) := by decide +kernel
theorem dX6_payBill_22 : decode cX6_payBill 22 = .ok (.iload_n 2, 1) := by decide +kernel
theorem dX6_payBill_23 : decode cX6_payBill 23 = .ok (.invokevirtual 134, 3) := by decide +kernel
theorem dX6_payBill_26 : decode cX6_payBill 26 = .ok (.istore_n 3, 1) := by decide +kernel
theorem dX6_payBill_27 : decode cX6_payBill 27 = .ok (.iload_n 3, 1) := by decide +kernel
theorem dX6_payBill_28 : decode cX6_payBill 28 = .ok (.ifCond .ge 5, 3) := by decide +kernel
theorem dX6_payBill_31 : decode cX6_payBill 31 = .ok (.iload_n 3, 1) := by decide +kernel
theorem dX6_payBill_32 : decode cX6_payBill 32 = .ok (.ireturn, 1) := by decide +kernel
theorem dX6_payBill_33 : decode cX6_payBill 33 = .ok (.aload_n 0, 1) := by decide +kernel
theorem dX6_payBill_34 : decode cX6_payBill 34 = .ok (.invokevirtual 102, 3) := by decide +kernel
theorem dX6_payBill_37 : decode cX6_payBill 37 = .ok (.aload_n 0, 1) := by decide +kernel
theorem dX6_payBill_38 : decode cX6_payBill 38 = .ok (.iload_n 1, 1) := by decide +kernel
theorem dX6_payBill_39 : decode cX6_payBill 39 = .ok (.iload_n 2, 1) := by decide +kernel
theorem dX6_payBill_40 : decode cX6_payBill 40 = .ok (.invokevirtual 128, 3) := by decide +kernel
theorem dX6_payBill_43 : decode cX6_payBill 43 = .ok (.ireturn, 1) := by decide +kernel
theorem dX6_payBack_0 : decode cX6_payBack 0 = .ok (.iload_n 1, 1) := by decide +kernel
theorem dX6_payBack_1 : decode cX6_payBack 1 = .ok (.invokestatic 96, 3) := by decide +kernel
theorem dX6_payBack_4 : decode cX6_payBack 4 = .ok (.ifCond .ne 5, 3) := by decide +kernel
theorem dX6_payBack_7 : decode cX6_payBack 7 = .ok (.iconst (-1), 1) := by decide +kernel
theorem dX6_payBack_8 : decode cX6_payBack 8 = .ok (.ireturn, 1) := by decide +kernel
theorem dX6_payBack_9 : decode cX6_payBack 9 = .ok (.aload_n 0, 1) := by decide +kernel
theorem dX6_payBack_10 : decode cX6_payBack 10 = .ok (.getfield 7, 3) := by decide +kernel
theorem dX6_payBack_13 : decode cX6_payBack 13 = .ok (.bipush 9, 2) := by decide +kernel
theorem dX6_payBack_15 : decode cX6_payBack 15 = .ok (.iload_n 1, 1) := by decide +kernel
theorem dX6_payBack_16 : decode cX6_payBack 16 = .ok (.iadd, 1) := by decide +kernel
theorem dX6_payBack_17 : decode cX6_payBack 17 = .ok (.iaload, 1) := by decide +kernel
theorem dX6_payBack_18 : decode cX6_payBack 18 = .ok (.istore_n 2, 1) := by decide +kernel
theorem dX6_payBack_19 : decode cX6_payBack 19 = .ok (.iload_n 2, 1) := by decide +kernel
theorem dX6_payBack_20 : decode cX6_payBack 20 = .ok (.ifCond .ne 6, 3) := by decide +kernel
theorem dX6_payBack_23 : decode cX6_payBack 23 = .ok (.bipush (-5), 2) := by decide +kernel
theorem dX6_payBack_25 : decode cX6_payBack 25 = .ok (.ireturn, 1) := by decide +kernel
theorem dX6_payBack_26 : decode cX6_payBack 26 = .ok (.aload_n 0, 1) := by decide +kernel
theorem dX6_payBack_27 : decode cX6_payBack 27 = .ok (.invokevirtual 102, 3) := by decide +kernel
theorem dX6_payBack_30 : decode cX6_payBack 30 = .ok (.aload_n 0, 1) := by decide +kernel
theorem dX6_payBack_31 : decode cX6_payBack 31 = .ok (.getfield 7, 3) := by decide +kernel
theorem dX6_payBack_34 : decode cX6_payBack 34 = .ok (.bipush 9, 2) := by decide +kernel
theorem dX6_payBack_36 : decode cX6_payBack 36 = .ok (.iload_n 1, 1) := by decide +kernel
theorem dX6_payBack_37 : decode cX6_payBack 37 = .ok (.iadd, 1) := by decide +kernel
theorem dX6_payBack_38 : decode cX6_payBack 38 = .ok (.iconst 0, 1) := by decide +kernel
theorem dX6_payBack_39 : decode cX6_payBack 39 = .ok (.iastore, 1) := by decide +kernel
theorem dX6_payBack_40 : decode cX6_payBack 40 = .ok (.aload_n 0, 1) := by decide +kernel
theorem dX6_payBack_41 : decode cX6_payBack 41 = .ok (.getfield 7, 3) := by decide +kernel
theorem dX6_payBack_44 : decode cX6_payBack 44 = .ok (.sipush 225, 3) := by decide +kernel
theorem dX6_payBack_47 : decode cX6_payBack 47 = .ok (.iload_n 1, 1) := by decide +kernel
theorem dX6_payBack_48 : decode cX6_payBack 48 = .ok (.iadd, 1) := by decide +kernel
theorem dX6_payBack_49 : decode cX6_payBack 49 = .ok (.dup2, 1) := by decide +kernel
theorem dX6_payBack_50 : decode cX6_payBack 50 = .ok (.iaload, 1) := by decide +kernel
theorem dX6_payBack_51 : decode cX6_payBack 51 = .ok (.iload_n 2, 1) := by decide +kernel
theorem dX6_payBack_52 : decode cX6_payBack 52 = .ok (.iadd, 1) := by decide +kernel
theorem dX6_payBack_53 : decode cX6_payBack 53 = .ok (.iastore, 1) := by decide +kernel
theorem dX6_payBack_54 : decode cX6_payBack 54 = .ok (.aload_n 0, 1) := by decide +kernel
theorem dX6_payBack_55 : decode cX6_payBack 55 = .ok (.getfield 7, 3) := by decide +kernel
theorem dX6_payBack_58 : decode cX6_payBack 58 = .ok (.bipush 7, 2) := by decide +kernel
theorem dX6_payBack_60 : decode cX6_payBack 60 = .ok (.dup2, 1) := by decide +kernel
theorem dX6_payBack_61 : decode cX6_payBack 61 = .ok (.iaload, 1) := by decide +kernel
theorem dX6_payBack_62 : decode cX6_payBack 62 = .ok (.iload_n 2, 1) := by decide +kernel
theorem dX6_payBack_63 : decode cX6_payBack 63 = .ok (.iadd, 1) := by decide +kernel
theorem dX6_payBack_64 : decode cX6_payBack 64 = .ok (.iastore, 1) := by decide +kernel
theorem dX6_payBack_65 : decode cX6_payBack 65 = .ok (.iload_n 2, 1) := by decide +kernel
theorem dX6_payBack_66 : decode cX6_payBack 66 = .ok (.ireturn, 1) := by decide +kernel
theorem dX6_overdue_0 : decode cX6_overdue 0 = .ok (.iconst 0, 1) := by decide +kernel
theorem dX6_overdue_1 : decode cX6_overdue 1 = .ok (.istore_n 1, 1) := by decide +kernel
theorem dX6_overdue_2 : decode cX6_overdue 2 = .ok (.iconst 0, 1) := by decide +kernel
theorem dX6_overdue_3 : decode cX6_overdue 3 = .ok (.istore_n 2, 1) := by decide +kernel
theorem dX6_overdue_4 : decode cX6_overdue 4 = .ok (.iload_n 2, 1) := by decide +kernel
theorem dX6_overdue_5 : decode cX6_overdue 5 = .ok (.aload_n 0, 1) := by decide +kernel
theorem dX6_overdue_6 : decode cX6_overdue 6 = .ok (.getfield 7, 3) := by decide +kernel
theorem dX6_overdue_9 : decode cX6_overdue 9 = .ok (.bipush 6, 2) := by decide +kernel
theorem dX6_overdue_11 : decode cX6_overdue 11 = .ok (.iaload, 1) := by decide +kernel
theorem dX6_overdue_12 : decode cX6_overdue 12 = .ok (.if_icmp .ge 25, 3) := by decide +kernel
theorem dX6_overdue_15 : decode cX6_overdue 15 = .ok (.iload_n 1, 1) := by decide +kernel
theorem dX6_overdue_16 : decode cX6_overdue 16 = .ok (.aload_n 0, 1) := by decide +kernel
theorem dX6_overdue_17 : decode cX6_overdue 17 = .ok (.iload_n 2, 1) := by decide +kernel
theorem dX6_overdue_18 : decode cX6_overdue 18 = .ok (.invokevirtual 85, 3) := by decide +kernel
theorem dX6_overdue_21 : decode cX6_overdue 21 = .ok (.ifCond .eq 7, 3) := by decide +kernel
theorem dX6_overdue_24 : decode cX6_overdue 24 = .ok (.iconst 1, 1) := by decide +kernel
theorem dX6_overdue_25 : decode cX6_overdue 25 = .ok (.goto 4, 3) := by decide +kernel
theorem dX6_overdue_28 : decode cX6_overdue 28 = .ok (.iconst 0, 1) := by decide +kernel
theorem dX6_overdue_29 : decode cX6_overdue 29 = .ok (.iadd, 1) := by decide +kernel
theorem dX6_overdue_30 : decode cX6_overdue 30 = .ok (.istore_n 1, 1) := by decide +kernel
theorem dX6_overdue_31 : decode cX6_overdue 31 = .ok (.iinc 2 1, 3) := by decide +kernel
theorem dX6_overdue_34 : decode cX6_overdue 34 = .ok (.goto (-30), 3) := by decide +kernel
theorem dX6_overdue_37 : decode cX6_overdue 37 = .ok (.iload_n 1, 1) := by decide +kernel
theorem dX6_overdue_38 : decode cX6_overdue 38 = .ok (.ireturn, 1) := by decide +kernel
theorem dX6_pass_0 : decode cX6_pass 0 = .ok (.iload_n 1, 1) := by decide +kernel
theorem dX6_pass_1 : decode cX6_pass 1 = .ok (.iconst 1, 1) := by decide +kernel
theorem dX6_pass_2 : decode cX6_pass 2 = .ok (.bipush 99, 2) := by decide +kernel
theorem dX6_pass_4 : decode cX6_pass 4 = .ok (.invokestatic 38, 3) := by decide +kernel
theorem dX6_pass_7 : decode cX6_pass 7 = .ok (.ifCond .ne 6, 3) := by decide +kernel
theorem dX6_pass_10 : decode cX6_pass 10 = .ok (.bipush (-2), 2) := by decide +kernel
theorem dX6_pass_12 : decode cX6_pass 12 = .ok (.ireturn, 1) := by decide +kernel
theorem dX6_pass_13 : decode cX6_pass 13 = .ok (.aload_n 0, 1) := by decide +kernel
theorem dX6_pass_14 : decode cX6_pass 14 = .ok (.getfield 7, 3) := by decide +kernel
theorem dX6_pass_17 : decode cX6_pass 17 = .ok (.iconst 0, 1) := by decide +kernel
theorem dX6_pass_18 : decode cX6_pass 18 = .ok (.iaload, 1) := by decide +kernel
theorem dX6_pass_19 : decode cX6_pass 19 = .ok (.iload_n 1, 1) := by decide +kernel
theorem dX6_pass_20 : decode cX6_pass 20 = .ok (.iadd, 1) := by decide +kernel
theorem dX6_pass_21 : decode cX6_pass 21 = .ok (.sipush 9999, 3) := by decide +kernel
theorem dX6_pass_24 : decode cX6_pass 24 = .ok (.if_icmp .le 6, 3) := by decide +kernel
theorem dX6_pass_27 : decode cX6_pass 27 = .ok (.bipush (-3), 2) := by decide +kernel
theorem dX6_pass_29 : decode cX6_pass 29 = .ok (.ireturn, 1) := by decide +kernel
theorem dX6_pass_30 : decode cX6_pass 30 = .ok (.aload_n 0, 1) := by decide +kernel
theorem dX6_pass_31 : decode cX6_pass 31 = .ok (.invokevirtual 102, 3) := by decide +kernel
theorem dX6_pass_34 : decode cX6_pass 34 = .ok (.aload_n 0, 1) := by decide +kernel
theorem dX6_pass_35 : decode cX6_pass 35 = .ok (.getfield 7, 3) := by decide +kernel
theorem dX6_pass_38 : decode cX6_pass 38 = .ok (.iconst 0, 1) := by decide +kernel
theorem dX6_pass_39 : decode cX6_pass 39 = .ok (.dup2, 1) := by decide +kernel
theorem dX6_pass_40 : decode cX6_pass 40 = .ok (.iaload, 1) := by decide +kernel
theorem dX6_pass_41 : decode cX6_pass 41 = .ok (.iload_n 1, 1) := by decide +kernel
theorem dX6_pass_42 : decode cX6_pass 42 = .ok (.iadd, 1) := by decide +kernel
theorem dX6_pass_43 : decode cX6_pass 43 = .ok (.iastore, 1) := by decide +kernel
theorem dX6_pass_44 : decode cX6_pass 44 = .ok (.aload_n 0, 1) := by decide +kernel
theorem dX6_pass_45 : decode cX6_pass 45 = .ok (.invokevirtual 137, 3) := by decide +kernel
theorem dX6_pass_48 : decode cX6_pass 48 = .ok (.ireturn, 1) := by decide +kernel
theorem dX6_remind_0 : decode cX6_remind 0 = .ok (.aload_n 0, 1) := by decide +kernel
theorem dX6_remind_1 : decode cX6_remind 1 = .ok (.invokevirtual 45, 3) := by decide +kernel
theorem dX6_remind_4 : decode cX6_remind 4 = .ok (.aload_n 0, 1) := by decide +kernel
theorem dX6_remind_5 : decode cX6_remind 5 = .ok (.invokevirtual 141, 3) := by decide +kernel
theorem dX6_remind_8 : decode cX6_remind 8 = .ok (.istore_n 1, 1) := by decide +kernel
theorem dX6_remind_9 : decode cX6_remind 9 = .ok (.iload_n 1, 1) := by decide +kernel
theorem dX6_remind_10 : decode cX6_remind 10 = .ok (.ifCond .le 7, 3) := by decide +kernel
theorem dX6_remind_13 : decode cX6_remind 13 = .ok (.aload_n 0, 1) := by decide +kernel
theorem dX6_remind_14 : decode cX6_remind 14 = .ok (.invokevirtual 48, 3) := by decide +kernel
theorem dX6_remind_17 : decode cX6_remind 17 = .ok (.iload_n 1, 1) := by decide +kernel
theorem dX6_remind_18 : decode cX6_remind 18 = .ok (.ifCond .ne 8, 3) := by decide +kernel
theorem dX6_remind_21 : decode cX6_remind 21 = .ok (.bipush (-5), 2) := by decide +kernel
theorem dX6_remind_23 : decode cX6_remind 23 = .ok (.goto 4, 3) := by decide +kernel
theorem dX6_remind_26 : decode cX6_remind 26 = .ok (.iload_n 1, 1) := by decide +kernel
theorem dX6_remind_27 : decode cX6_remind 27 = .ok (.ireturn, 1) := by decide +kernel
theorem dX6_canBeOff_0 : decode cX6_canBeOff 0 = .ok (.aload_n 0, 1) := by decide +kernel
theorem dX6_canBeOff_1 : decode cX6_canBeOff 1 = .ok (.iload_n 1, 1) := by decide +kernel
theorem dX6_canBeOff_2 : decode cX6_canBeOff 2 = .ok (.iconst 0, 1) := by decide +kernel
theorem dX6_canBeOff_3 : decode cX6_canBeOff 3 = .ok (.invokevirtual 62, 3) := by decide +kernel
theorem dX6_canBeOff_6 : decode cX6_canBeOff 6 = .ok (.ifCond .eq 46, 3) := by decide +kernel
theorem dX6_canBeOff_9 : decode cX6_canBeOff 9 = .ok (.aload_n 0, 1) := by decide +kernel
theorem dX6_canBeOff_10 : decode cX6_canBeOff 10 = .ok (.getfield 7, 3) := by decide +kernel
theorem dX6_canBeOff_13 : decode cX6_canBeOff 13 = .ok (.iload_n 1, 1) := by decide +kernel
theorem dX6_canBeOff_14 : decode cX6_canBeOff 14 = .ok (.bipush 9, 2) := by decide +kernel
theorem dX6_canBeOff_16 : decode cX6_canBeOff 16 = .ok (.invokestatic 51, 3) := by decide +kernel
theorem dX6_canBeOff_19 : decode cX6_canBeOff 19 = .ok (.iaload, 1) := by decide +kernel
theorem dX6_canBeOff_20 : decode cX6_canBeOff 20 = .ok (.iconst 3, 1) := by decide +kernel
theorem dX6_canBeOff_21 : decode cX6_canBeOff 21 = .ok (.if_icmp .ne 31, 3) := by decide +kernel
theorem dX6_canBeOff_24 : decode cX6_canBeOff 24 = .ok (.aload_n 0, 1) := by decide +kernel
theorem dX6_canBeOff_25 : decode cX6_canBeOff 25 = .ok (.aload_n 0, 1) := by decide +kernel
theorem dX6_canBeOff_26 : decode cX6_canBeOff 26 = .ok (.getfield 7, 3) := by decide +kernel
theorem dX6_canBeOff_29 : decode cX6_canBeOff 29 = .ok (.iload_n 1, 1) := by decide +kernel
theorem dX6_canBeOff_30 : decode cX6_canBeOff 30 = .ok (.bipush 10, 2) := by decide +kernel
theorem dX6_canBeOff_32 : decode cX6_canBeOff 32 = .ok (.invokestatic 51, 3) := by decide +kernel
theorem dX6_canBeOff_35 : decode cX6_canBeOff 35 = .ok (.iaload, 1) := by decide +kernel
theorem dX6_canBeOff_36 : decode cX6_canBeOff 36 = .ok (.invokevirtual 66, 3) := by decide +kernel
theorem dX6_canBeOff_39 : decode cX6_canBeOff 39 = .ok (.aload_n 0, 1) := by decide +kernel
theorem dX6_canBeOff_40 : decode cX6_canBeOff 40 = .ok (.getfield 7, 3) := by decide +kernel
theorem dX6_canBeOff_43 : decode cX6_canBeOff 43 = .ok (.iconst 3, 1) := by decide +kernel
theorem dX6_canBeOff_44 : decode cX6_canBeOff 44 = .ok (.iaload, 1) := by decide +kernel
theorem dX6_canBeOff_45 : decode cX6_canBeOff 45 = .ok (.if_icmp .lt 7, 3) := by decide +kernel
theorem dX6_canBeOff_48 : decode cX6_canBeOff 48 = .ok (.iconst 1, 1) := by decide +kernel
theorem dX6_canBeOff_49 : decode cX6_canBeOff 49 = .ok (.goto 4, 3) := by decide +kernel
theorem dX6_canBeOff_52 : decode cX6_canBeOff 52 = .ok (.iconst 0, 1) := by decide +kernel
theorem dX6_canBeOff_53 : decode cX6_canBeOff 53 = .ok (.ireturn, 1) := by decide +kernel
theorem dX6_writeOff_0 : decode cX6_writeOff 0 = .ok (.aload_n 0, 1) := by decide +kernel
theorem dX6_writeOff_1 : decode cX6_writeOff 1 = .ok (.iload_n 1, 1) := by decide +kernel
theorem dX6_writeOff_2 : decode cX6_writeOff 2 = .ok (.invokevirtual 131, 3) := by decide +kernel
theorem dX6_writeOff_5 : decode cX6_writeOff 5 = .ok (.ifCond .ne 5, 3) := by decide +kernel
theorem dX6_writeOff_8 : decode cX6_writeOff 8 = .ok (.iconst (-1), 1) := by decide +kernel
theorem dX6_writeOff_9 : decode cX6_writeOff 9 = .ok (.ireturn, 1) := by decide +kernel
theorem dX6_writeOff_10 : decode cX6_writeOff 10 = .ok (.aload_n 0, 1) := by decide +kernel
theorem dX6_writeOff_11 : decode cX6_writeOff 11 = .ok (.iload_n 1, 1) := by decide +kernel
theorem dX6_writeOff_12 : decode cX6_writeOff 12 = .ok (.invokevirtual 144, 3) := by decide +kernel
theorem dX6_writeOff_15 : decode cX6_writeOff 15 = .ok (.ifCond .ne 6, 3) := by decide +kernel
theorem dX6_writeOff_18 : decode cX6_writeOff 18 = .ok (.bipush (-4), 2) := by decide +kernel
theorem dX6_writeOff_20 : decode cX6_writeOff 20 = .ok (.ireturn, 1) := by decide +kernel
theorem dX6_writeOff_21 : decode cX6_writeOff 21 = .ok (.aload_n 0, 1) := by decide +kernel
theorem dX6_writeOff_22 : decode cX6_writeOff 22 = .ok (.invokevirtual 102, 3) := by decide +kernel
theorem dX6_writeOff_25 : decode cX6_writeOff 25 = .ok (.aload_n 0, 1) := by decide +kernel
theorem dX6_writeOff_26 : decode cX6_writeOff 26 = .ok (.getfield 7, 3) := by decide +kernel
theorem dX6_writeOff_29 : decode cX6_writeOff 29 = .ok (.iload_n 1, 1) := by decide +kernel
theorem dX6_writeOff_30 : decode cX6_writeOff 30 = .ok (.iconst 5, 1) := by decide +kernel
theorem dX6_writeOff_31 : decode cX6_writeOff 31 = .ok (.invokestatic 51, 3) := by decide +kernel
theorem dX6_writeOff_34 : decode cX6_writeOff 34 = .ok (.iconst 2, 1) := by decide +kernel
theorem dX6_writeOff_35 : decode cX6_writeOff 35 = .ok (.iastore, 1) := by decide +kernel
theorem dX6_writeOff_36 : decode cX6_writeOff 36 = .ok (.aload_n 0, 1) := by decide +kernel
theorem dX6_writeOff_37 : decode cX6_writeOff 37 = .ok (.iload_n 1, 1) := by decide +kernel
theorem dX6_writeOff_38 : decode cX6_writeOff 38 = .ok (.invokevirtual 69, 3) := by decide +kernel
theorem dX6_writeOff_41 : decode cX6_writeOff 41 = .ok (.ireturn, 1) := by decide +kernel
theorem dX6_dueFor_0 : decode cX6_dueFor 0 = .ok (.iconst 0, 1) := by decide +kernel
theorem dX6_dueFor_1 : decode cX6_dueFor 1 = .ok (.istore_n 3, 1) := by decide +kernel
theorem dX6_dueFor_2 : decode cX6_dueFor 2 = .ok (.iconst 0, 1) := by decide +kernel
theorem dX6_dueFor_3 : decode cX6_dueFor 3 = .ok (.istore 4, 2) := by decide +kernel
theorem dX6_dueFor_5 : decode cX6_dueFor 5 = .ok (.iload 4, 2) := by decide +kernel
theorem dX6_dueFor_7 : decode cX6_dueFor 7 = .ok (.aload_n 0, 1) := by decide +kernel
theorem dX6_dueFor_8 : decode cX6_dueFor 8 = .ok (.getfield 7, 3) := by decide +kernel
theorem dX6_dueFor_11 : decode cX6_dueFor 11 = .ok (.bipush 6, 2) := by decide +kernel
theorem dX6_dueFor_13 : decode cX6_dueFor 13 = .ok (.iaload, 1) := by decide +kernel
theorem dX6_dueFor_14 : decode cX6_dueFor 14 = .ok (.if_icmp .ge 40, 3) := by decide +kernel
theorem dX6_dueFor_17 : decode cX6_dueFor 17 = .ok (.iload_n 3, 1) := by decide +kernel
theorem dX6_dueFor_18 : decode cX6_dueFor 18 = .ok (.aload_n 0, 1) := by decide +kernel
theorem dX6_dueFor_19 : decode cX6_dueFor 19 = .ok (.getfield 7, 3) := by decide +kernel
theorem dX6_dueFor_22 : decode cX6_dueFor 22 = .ok (.iload 4, 2) := by decide +kernel
theorem dX6_dueFor_24 : decode cX6_dueFor 24 = .ok (.iconst 3, 1) := by decide +kernel
theorem dX6_dueFor_25 : decode cX6_dueFor 25 = .ok (.invokestatic 51, 3) := by decide +kernel
theorem dX6_dueFor_28 : decode cX6_dueFor 28 = .ok (.iaload, 1) := by decide +kernel
theorem dX6_dueFor_29 : decode cX6_dueFor 29 = .ok (.bipush 100, 2) := by decide +kernel
theorem dX6_dueFor_31 : decode cX6_dueFor 31 = .ok (.idiv, 1) := by decide +kernel
theorem dX6_dueFor_32 : decode cX6_dueFor 32 = .ok (.iload_n 1, 1) := by decide +kernel
theorem dX6_dueFor_33 : decode cX6_dueFor 33 = .ok (.if_icmp .ne 12, 3) := by decide +kernel
theorem dX6_dueFor_36 : decode cX6_dueFor 36 = .ok (.aload_n 0, 1) := by decide +kernel
theorem dX6_dueFor_37 : decode cX6_dueFor 37 = .ok (.iload 4, 2) := by decide +kernel
theorem dX6_dueFor_39 : decode cX6_dueFor 39 = .ok (.invokevirtual 55, 3) := by decide +kernel
theorem dX6_dueFor_42 : decode cX6_dueFor 42 = .ok (.goto 4, 3) := by decide +kernel
theorem dX6_dueFor_45 : decode cX6_dueFor 45 = .ok (.iconst 0, 1) := by decide +kernel
theorem dX6_dueFor_46 : decode cX6_dueFor 46 = .ok (.iadd, 1) := by decide +kernel
theorem dX6_dueFor_47 : decode cX6_dueFor 47 = .ok (.istore_n 3, 1) := by decide +kernel
theorem dX6_dueFor_48 : decode cX6_dueFor 48 = .ok (.iinc 4 1, 3) := by decide +kernel
theorem dX6_dueFor_51 : decode cX6_dueFor 51 = .ok (.goto (-46), 3) := by decide +kernel
theorem dX6_dueFor_54 : decode cX6_dueFor 54 = .ok (.iload_n 2, 1) := by decide +kernel
theorem dX6_dueFor_55 : decode cX6_dueFor 55 = .ok (.ifCond .ne 7, 3) := by decide +kernel
theorem dX6_dueFor_58 : decode cX6_dueFor 58 = .ok (.iload_n 3, 1) := by decide +kernel
theorem dX6_dueFor_59 : decode cX6_dueFor 59 = .ok (.goto 12, 3) := by decide +kernel
theorem dX6_dueFor_62 : decode cX6_dueFor 62 = .ok (.aload_n 0, 1) := by decide +kernel
theorem dX6_dueFor_63 : decode cX6_dueFor 63 = .ok (.getfield 7, 3) := by decide +kernel
theorem dX6_dueFor_66 : decode cX6_dueFor 66 = .ok (.bipush 25, 2) := by decide +kernel
theorem dX6_dueFor_68 : decode cX6_dueFor 68 = .ok (.iload_n 1, 1) := by decide +kernel
theorem dX6_dueFor_69 : decode cX6_dueFor 69 = .ok (.iadd, 1) := by decide +kernel
theorem dX6_dueFor_70 : decode cX6_dueFor 70 = .ok (.iaload, 1) := by decide +kernel
theorem dX6_dueFor_71 : decode cX6_dueFor 71 = .ok (.ireturn, 1) := by decide +kernel
theorem dX6_isYear_0 : decode cX6_isYear 0 = .ok (.iload_n 0, 1) := by decide +kernel
theorem dX6_isYear_1 : decode cX6_isYear 1 = .ok (.iconst 0, 1) := by decide +kernel
theorem dX6_isYear_2 : decode cX6_isYear 2 = .ok (.bipush 99, 2) := by decide +kernel
theorem dX6_isYear_4 : decode cX6_isYear 4 = .ok (.invokestatic 38, 3) := by decide +kernel
theorem dX6_isYear_7 : decode cX6_isYear 7 = .ok (.ireturn, 1) := by decide +kernel
theorem dX6_closeYear_0 : decode cX6_closeYear 0 = .ok (.iload_n 1, 1) := by decide +kernel
theorem dX6_closeYear_1 : decode cX6_closeYear 1 = .ok (.invokestatic 147, 3) := by decide +kernel
theorem dX6_closeYear_4 : decode cX6_closeYear 4 = .ok (.ifCond .ne 5, 3) := by decide +kernel
theorem dX6_closeYear_7 : decode cX6_closeYear 7 = .ok (.iconst (-1), 1) := by decide +kernel
theorem dX6_closeYear_8 : decode cX6_closeYear 8 = .ok (.ireturn, 1) := by decide +kernel
theorem dX6_closeYear_9 : decode cX6_closeYear 9 = .ok (.aload_n 0, 1) := by decide +kernel
theorem dX6_closeYear_10 : decode cX6_closeYear 10 = .ok (.getfield 7, 3) := by decide +kernel
theorem dX6_closeYear_13 : decode cX6_closeYear 13 = .ok (.iconst 0, 1) := by decide +kernel
theorem dX6_closeYear_14 : decode cX6_closeYear 14 = .ok (.iaload, 1) := by decide +kernel
theorem dX6_closeYear_15 : decode cX6_closeYear 15 = .ok (.bipush 100, 2) := by decide +kernel
theorem dX6_closeYear_17 : decode cX6_closeYear 17 = .ok (.iload_n 1, 1) := by decide +kernel
theorem dX6_closeYear_18 : decode cX6_closeYear 18 = .ok (.iconst 1, 1) := by decide +kernel
theorem dX6_closeYear_19 : decode cX6_closeYear 19 = .ok (.iadd, 1) := by decide +kernel
theorem dX6_closeYear_20 : decode cX6_closeYear 20 = .ok (.imul, 1) := by decide +kernel
theorem dX6_closeYear_21 : decode cX6_closeYear 21 = .ok (.if_icmp .lt 14, 3) := by decide +kernel
theorem dX6_closeYear_24 : decode cX6_closeYear 24 = .ok (.aload_n 0, 1) := by decide +kernel
theorem dX6_closeYear_25 : decode cX6_closeYear 25 = .ok (.getfield 7, 3) := by decide +kernel
theorem dX6_closeYear_28 : decode cX6_closeYear 28 = .ok (.bipush 8, 2) := by decide +kernel
theorem dX6_closeYear_30 : decode cX6_closeYear 30 = .ok (.iaload, 1) := by decide +kernel
theorem dX6_closeYear_31 : decode cX6_closeYear 31 = .ok (.iload_n 1, 1) := by decide +kernel
theorem dX6_closeYear_32 : decode cX6_closeYear 32 = .ok (.if_icmp .ge 6, 3) := by decide +kernel
theorem dX6_closeYear_35 : decode cX6_closeYear 35 = .ok (.bipush (-4), 2) := by decide +kernel
theorem dX6_closeYear_37 : decode cX6_closeYear 37 = .ok (.ireturn, 1) := by decide +kernel
theorem dX6_closeYear_38 : decode cX6_closeYear 38 = .ok (.aload_n 0, 1) := by decide +kernel
theorem dX6_closeYear_39 : decode cX6_closeYear 39 = .ok (.getfield 7, 3) := by decide +kernel
theorem dX6_closeYear_42 : decode cX6_closeYear 42 = .ok (.bipush 8, 2) := by decide +kernel
theorem dX6_closeYear_44 : decode cX6_closeYear 44 = .ok (.iaload, 1) := by decide +kernel
theorem dX6_closeYear_45 : decode cX6_closeYear 45 = .ok (.iload_n 1, 1) := by decide +kernel
theorem dX6_closeYear_46 : decode cX6_closeYear 46 = .ok (.if_icmp .le 6, 3) := by decide +kernel
theorem dX6_closeYear_49 : decode cX6_closeYear 49 = .ok (.bipush (-5), 2) := by decide +kernel
theorem dX6_closeYear_51 : decode cX6_closeYear 51 = .ok (.ireturn, 1) := by decide +kernel
theorem dX6_closeYear_52 : decode cX6_closeYear 52 = .ok (.aload_n 0, 1) := by decide +kernel
theorem dX6_closeYear_53 : decode cX6_closeYear 53 = .ok (.invokevirtual 102, 3) := by decide +kernel
theorem dX6_closeYear_56 : decode cX6_closeYear 56 = .ok (.aload_n 0, 1) := by decide +kernel
theorem dX6_closeYear_57 : decode cX6_closeYear 57 = .ok (.getfield 7, 3) := by decide +kernel
theorem dX6_closeYear_60 : decode cX6_closeYear 60 = .ok (.bipush 125, 2) := by decide +kernel
theorem dX6_closeYear_62 : decode cX6_closeYear 62 = .ok (.iload_n 1, 1) := by decide +kernel
theorem dX6_closeYear_63 : decode cX6_closeYear 63 = .ok (.iadd, 1) := by decide +kernel
theorem dX6_closeYear_64 : decode cX6_closeYear 64 = .ok (.aload_n 0, 1) := by decide +kernel
theorem dX6_closeYear_65 : decode cX6_closeYear 65 = .ok (.iload_n 1, 1) := by decide +kernel
theorem dX6_closeYear_66 : decode cX6_closeYear 66 = .ok (.aload_n 0, 1) := by decide +kernel
theorem dX6_closeYear_67 : decode cX6_closeYear 67 = .ok (.getfield 7, 3) := by decide +kernel
theorem dX6_closeYear_70 : decode cX6_closeYear 70 = .ok (.iconst 5, 1) := by decide +kernel
theorem dX6_closeYear_71 : decode cX6_closeYear 71 = .ok (.iaload, 1) := by decide +kernel
theorem dX6_closeYear_72 : decode cX6_closeYear 72 = .ok (.invokevirtual 150, 3) := by decide +kernel
theorem dX6_closeYear_75 : decode cX6_closeYear 75 = .ok (.iastore, 1) := by decide +kernel
theorem dX6_closeYear_76 : decode cX6_closeYear 76 = .ok (.aload_n 0, 1) := by decide +kernel
theorem dX6_closeYear_77 : decode cX6_closeYear 77 = .ok (.getfield 7, 3) := by decide +kernel
theorem dX6_closeYear_80 : decode cX6_closeYear 80 = .ok (.bipush 8, 2) := by decide +kernel
theorem dX6_closeYear_82 : decode cX6_closeYear 82 = .ok (.dup2, 1) := by decide +kernel
theorem dX6_closeYear_83 : decode cX6_closeYear 83 = .ok (.iaload, 1) := by decide +kernel
theorem dX6_closeYear_84 : decode cX6_closeYear 84 = .ok (.iconst 1, 1) := by decide +kernel
theorem dX6_closeYear_85 : decode cX6_closeYear 85 = .ok (.iadd, 1) := by decide +kernel
theorem dX6_closeYear_86 : decode cX6_closeYear 86 = .ok (.iastore, 1) := by decide +kernel
theorem dX6_closeYear_87 : decode cX6_closeYear 87 = .ok (.aload_n 0, 1) := by decide +kernel
theorem dX6_closeYear_88 : decode cX6_closeYear 88 = .ok (.getfield 7, 3) := by decide +kernel
theorem dX6_closeYear_91 : decode cX6_closeYear 91 = .ok (.bipush 125, 2) := by decide +kernel
theorem dX6_closeYear_93 : decode cX6_closeYear 93 = .ok (.iload_n 1, 1) := by decide +kernel
theorem dX6_closeYear_94 : decode cX6_closeYear 94 = .ok (.iadd, 1) := by decide +kernel
theorem dX6_closeYear_95 : decode cX6_closeYear 95 = .ok (.iaload, 1) := by decide +kernel
theorem dX6_closeYear_96 : decode cX6_closeYear 96 = .ok (.ireturn, 1) := by decide +kernel
theorem dX6_most_0 : decode cX6_most 0 = .ok (.iload_n 0, 1) := by decide +kernel
theorem dX6_most_1 : decode cX6_most 1 = .ok (.iconst 1, 1) := by decide +kernel
theorem dX6_most_2 : decode cX6_most 2 = .ok (.if_icmp .ne 8, 3) := by decide +kernel
theorem dX6_most_5 : decode cX6_most 5 = .ok (.bipush 20, 2) := by decide +kernel
theorem dX6_most_7 : decode cX6_most 7 = .ok (.goto 14, 3) := by decide +kernel
theorem dX6_most_10 : decode cX6_most 10 = .ok (.iload_n 0, 1) := by decide +kernel
theorem dX6_most_11 : decode cX6_most 11 = .ok (.iconst 4, 1) := by decide +kernel
theorem dX6_most_12 : decode cX6_most 12 = .ok (.if_icmp .ne 7, 3) := by decide +kernel
theorem dX6_most_15 : decode cX6_most 15 = .ok (.iconst 1, 1) := by decide +kernel
theorem dX6_most_16 : decode cX6_most 16 = .ok (.goto 5, 3) := by decide +kernel
theorem dX6_most_19 : decode cX6_most 19 = .ok (.bipush 99, 2) := by decide +kernel
theorem dX6_most_21 : decode cX6_most 21 = .ok (.ireturn, 1) := by decide +kernel
theorem dX6_set_0 : decode cX6_set 0 = .ok (.iload_n 1, 1) := by decide +kernel
theorem dX6_set_1 : decode cX6_set 1 = .ok (.iconst 0, 1) := by decide +kernel
theorem dX6_set_2 : decode cX6_set 2 = .ok (.iconst 4, 1) := by decide +kernel
theorem dX6_set_3 : decode cX6_set 3 = .ok (.invokestatic 38, 3) := by decide +kernel
theorem dX6_set_6 : decode cX6_set 6 = .ok (.ifCond .ne 5, 3) := by decide +kernel
theorem dX6_set_9 : decode cX6_set 9 = .ok (.iconst (-1), 1) := by decide +kernel
theorem dX6_set_10 : decode cX6_set 10 = .ok (.ireturn, 1) := by decide +kernel
theorem dX6_set_11 : decode cX6_set 11 = .ok (.iload_n 2, 1) := by decide +kernel
theorem dX6_set_12 : decode cX6_set 12 = .ok (.iload_n 1, 1) := by decide +kernel
theorem dX6_set_13 : decode cX6_set 13 = .ok (.iconst 2, 1) := by decide +kernel
theorem dX6_set_14 : decode cX6_set 14 = .ok (.if_icmp .ne 7, 3) := by decide +kernel
theorem dX6_set_17 : decode cX6_set 17 = .ok (.iconst 1, 1) := by decide +kernel
theorem dX6_set_18 : decode cX6_set 18 = .ok (.goto 4, 3) := by decide +kernel
theorem dX6_set_21 : decode cX6_set 21 = .ok (.iconst 0, 1) := by decide +kernel
theorem dX6_set_22 : decode cX6_set 22 = .ok (.iload_n 1, 1) := by decide +kernel
theorem dX6_set_23 : decode cX6_set 23 = .ok (.invokestatic 153, 3) := by decide +kernel
theorem dX6_set_26 : decode cX6_set 26 = .ok (.invokestatic 38, 3) := by decide +kernel
theorem dX6_set_29 : decode cX6_set 29 = .ok (.ifCond .ne 6, 3) := by decide +kernel
theorem dX6_set_32 : decode cX6_set 32 = .ok (.bipush (-2), 2) := by decide +kernel
theorem dX6_set_34 : decode cX6_set 34 = .ok (.ireturn, 1) := by decide +kernel
theorem dX6_set_35 : decode cX6_set 35 = .ok (.aload_n 0, 1) := by decide +kernel
theorem dX6_set_36 : decode cX6_set 36 = .ok (.getfield 7, 3) := by decide +kernel
theorem dX6_set_39 : decode cX6_set 39 = .ok (.iconst 1, 1) := by decide +kernel
theorem dX6_set_40 : decode cX6_set 40 = .ok (.iload_n 1, 1) := by decide +kernel
theorem dX6_set_41 : decode cX6_set 41 = .ok (.iadd, 1) := by decide +kernel
theorem dX6_set_42 : decode cX6_set 42 = .ok (.iaload, 1) := by decide +kernel
theorem dX6_set_43 : decode cX6_set 43 = .ok (.istore_n 3, 1) := by decide +kernel
theorem dX6_set_44 : decode cX6_set 44 = .ok (.iload_n 3, 1) := by decide +kernel
theorem dX6_set_45 : decode cX6_set 45 = .ok (.iload_n 2, 1) := by decide +kernel
theorem dX6_set_46 : decode cX6_set 46 = .ok (.if_icmp .ne 6, 3) := by decide +kernel
theorem dX6_set_49 : decode cX6_set 49 = .ok (.bipush (-5), 2) := by decide +kernel
theorem dX6_set_51 : decode cX6_set 51 = .ok (.ireturn, 1) := by decide +kernel
theorem dX6_set_52 : decode cX6_set 52 = .ok (.aload_n 0, 1) := by decide +kernel
theorem dX6_set_53 : decode cX6_set 53 = .ok (.invokevirtual 102, 3) := by decide +kernel
theorem dX6_set_56 : decode cX6_set 56 = .ok (.aload_n 0, 1) := by decide +kernel
theorem dX6_set_57 : decode cX6_set 57 = .ok (.getfield 7, 3) := by decide +kernel
theorem dX6_set_60 : decode cX6_set 60 = .ok (.iconst 1, 1) := by decide +kernel
theorem dX6_set_61 : decode cX6_set 61 = .ok (.iload_n 1, 1) := by decide +kernel
theorem dX6_set_62 : decode cX6_set 62 = .ok (.iadd, 1) := by decide +kernel
theorem dX6_set_63 : decode cX6_set 63 = .ok (.iload_n 2, 1) := by decide +kernel
theorem dX6_set_64 : decode cX6_set 64 = .ok (.iastore, 1) := by decide +kernel
theorem dX6_set_65 : decode cX6_set 65 = .ok (.iload_n 3, 1) := by decide +kernel
theorem dX6_set_66 : decode cX6_set 66 = .ok (.ireturn, 1) := by decide +kernel
theorem dX6_type_0 : decode cX6_type 0 = .ok (.aload_n 0, 1) := by decide +kernel
theorem dX6_type_1 : decode cX6_type 1 = .ok (.getfield 156, 3) := by decide +kernel
theorem dX6_type_4 : decode cX6_type 4 = .ok (.bipush 60, 2) := by decide +kernel
theorem dX6_type_6 : decode cX6_type 6 = .ok (.if_icmp .ne 6, 3) := by decide +kernel
theorem dX6_type_9 : decode cX6_type 9 = .ok (.bipush (-3), 2) := by decide +kernel
theorem dX6_type_11 : decode cX6_type 11 = .ok (.ireturn, 1) := by decide +kernel
theorem dX6_type_12 : decode cX6_type 12 = .ok (.aload_n 0, 1) := by decide +kernel
theorem dX6_type_13 : decode cX6_type 13 = .ok (.getfield 25, 3) := by decide +kernel
theorem dX6_type_16 : decode cX6_type 16 = .ok (.aload_n 0, 1) := by decide +kernel
theorem dX6_type_17 : decode cX6_type 17 = .ok (.getfield 156, 3) := by decide +kernel
theorem dX6_type_20 : decode cX6_type 20 = .ok (.iload_n 1, 1) := by decide +kernel
theorem dX6_type_21 : decode cX6_type 21 = .ok (.iastore, 1) := by decide +kernel
theorem dX6_type_22 : decode cX6_type 22 = .ok (.aload_n 0, 1) := by decide +kernel
theorem dX6_type_23 : decode cX6_type 23 = .ok (.dup, 1) := by decide +kernel
theorem dX6_type_24 : decode cX6_type 24 = .ok (.getfield 156, 3) := by decide +kernel
theorem dX6_type_27 : decode cX6_type 27 = .ok (.iconst 1, 1) := by decide +kernel
theorem dX6_type_28 : decode cX6_type 28 = .ok (.iadd, 1) := by decide +kernel
theorem dX6_type_29 : decode cX6_type 29 = .ok (.putfield 156, 3) := by decide +kernel
theorem dX6_type_32 : decode cX6_type 32 = .ok (.aload_n 0, 1) := by decide +kernel
theorem dX6_type_33 : decode cX6_type 33 = .ok (.getfield 156, 3) := by decide +kernel
theorem dX6_type_36 : decode cX6_type 36 = .ok (.ireturn, 1) := by decide +kernel
theorem dX6_clearText_0 : decode cX6_clearText 0 = .ok (.aload_n 0, 1) := by decide +kernel
theorem dX6_clearText_1 : decode cX6_clearText 1 = .ok (.getfield 156, 3) := by decide +kernel
theorem dX6_clearText_4 : decode cX6_clearText 4 = .ok (.istore_n 1, 1) := by decide +kernel
theorem dX6_clearText_5 : decode cX6_clearText 5 = .ok (.aload_n 0, 1) := by decide +kernel
theorem dX6_clearText_6 : decode cX6_clearText 6 = .ok (.iconst 0, 1) := by decide +kernel
theorem dX6_clearText_7 : decode cX6_clearText 7 = .ok (.putfield 156, 3) := by decide +kernel
theorem dX6_clearText_10 : decode cX6_clearText 10 = .ok (.iload_n 1, 1) := by decide +kernel
theorem dX6_clearText_11 : decode cX6_clearText 11 = .ok (.ireturn, 1) := by decide +kernel
theorem dX6_isNext_0 : decode cX6_isNext 0 = .ok (.aload_n 0, 1) := by decide +kernel
theorem dX6_isNext_1 : decode cX6_isNext 1 = .ok (.getfield 159, 3) := by decide +kernel
theorem dX6_isNext_4 : decode cX6_isNext 4 = .ok (.ifCond .ne 35, 3) := by decide +kernel
theorem dX6_isNext_7 : decode cX6_isNext 7 = .ok (.aload_n 0, 1) := by decide +kernel
theorem dX6_isNext_8 : decode cX6_isNext 8 = .ok (.getfield 163, 3) := by decide +kernel
theorem dX6_isNext_11 : decode cX6_isNext 11 = .ok (.aload_n 0, 1) := by decide +kernel
theorem dX6_isNext_12 : decode cX6_isNext 12 = .ok (.getfield 156, 3) := by decide +kernel
theorem dX6_isNext_15 : decode cX6_isNext 15 = .ok (.if_icmp .ge 24, 3) := by decide +kernel
theorem dX6_isNext_18 : decode cX6_isNext 18 = .ok (.aload_n 0, 1) := by decide +kernel
theorem dX6_isNext_19 : decode cX6_isNext 19 = .ok (.getfield 25, 3) := by decide +kernel
theorem dX6_isNext_22 : decode cX6_isNext 22 = .ok (.aload_n 0, 1) := by decide +kernel
theorem dX6_isNext_23 : decode cX6_isNext 23 = .ok (.getfield 163, 3) := by decide +kernel
theorem dX6_isNext_26 : decode cX6_isNext 26 = .ok (.iaload, 1) := by decide +kernel
theorem dX6_isNext_27 : decode cX6_isNext 27 = .ok (.iload_n 1, 1) := by decide +kernel
theorem dX6_isNext_28 : decode cX6_isNext 28 = .ok (.iload_n 2, 1) := by decide +kernel
theorem dX6_isNext_29 : decode cX6_isNext 29 = .ok (.invokestatic 38, 3) := by decide +kernel
theorem dX6_isNext_32 : decode cX6_isNext 32 = .ok (.ifCond .eq 7, 3) := by decide +kernel
theorem dX6_isNext_35 : decode cX6_isNext 35 = .ok (.iconst 1, 1) := by decide +kernel
theorem dX6_isNext_36 : decode cX6_isNext 36 = .ok (.goto 4, 3) := by decide +kernel
theorem dX6_isNext_39 : decode cX6_isNext 39 = .ok (.iconst 0, 1) := by decide +kernel
theorem dX6_isNext_40 : decode cX6_isNext 40 = .ok (.ireturn, 1) := by decide +kernel
theorem dX6_takes_0 : decode cX6_takes 0 = .ok (.aload_n 0, 1) := by decide +kernel
theorem dX6_takes_1 : decode cX6_takes 1 = .ok (.getfield 163, 3) := by decide +kernel
theorem dX6_takes_4 : decode cX6_takes 4 = .ok (.aload_n 0, 1) := by decide +kernel
theorem dX6_takes_5 : decode cX6_takes 5 = .ok (.getfield 156, 3) := by decide +kernel
theorem dX6_takes_8 : decode cX6_takes 8 = .ok (.if_icmp .ge 15, 3) := by decide +kernel
theorem dX6_takes_11 : decode cX6_takes 11 = .ok (.aload_n 0, 1) := by decide +kernel
theorem dX6_takes_12 : decode cX6_takes 12 = .ok (.getfield 25, 3) := by decide +kernel
theorem dX6_takes_15 : decode cX6_takes 15 = .ok (.aload_n 0, 1) := by decide +kernel
theorem dX6_takes_16 : decode cX6_takes 16 = .ok (.getfield 163, 3) := by decide +kernel
theorem dX6_takes_19 : decode cX6_takes 19 = .ok (.iaload, 1) := by decide +kernel
theorem dX6_takes_20 : decode cX6_takes 20 = .ok (.goto 4, 3) := by decide +kernel
theorem dX6_takes_23 : decode cX6_takes 23 = .ok (.iconst 0, 1) := by decide +kernel
theorem dX6_takes_24 : decode cX6_takes 24 = .ok (.istore_n 3, 1) := by decide +kernel
theorem dX6_takes_25 : decode cX6_takes 25 = .ok (.aload_n 0, 1) := by decide +kernel
theorem dX6_takes_26 : decode cX6_takes 26 = .ok (.aload_n 0, 1) := by decide +kernel
theorem dX6_takes_27 : decode cX6_takes 27 = .ok (.getfield 159, 3) := by decide +kernel
theorem dX6_takes_30 : decode cX6_takes 30 = .ok (.ifCond .ne 12, 3) := by decide +kernel
theorem dX6_takes_33 : decode cX6_takes 33 = .ok (.iload_n 3, 1) := by decide +kernel
theorem dX6_takes_34 : decode cX6_takes 34 = .ok (.iload_n 1, 1) := by decide +kernel
theorem dX6_takes_35 : decode cX6_takes 35 = .ok (.iload_n 2, 1) := by decide +kernel
theorem dX6_takes_36 : decode cX6_takes 36 = .ok (.invokestatic 38, 3) := by decide +kernel
theorem dX6_takes_39 : decode cX6_takes 39 = .ok (.ifCond .ne 7, 3) := by decide +kernel
theorem dX6_takes_42 : decode cX6_takes 42 = .ok (.iconst 1, 1) := by decide +kernel
theorem dX6_takes_43 : decode cX6_takes 43 = .ok (.goto 4, 3) := by decide +kernel
theorem dX6_takes_46 : decode cX6_takes 46 = .ok (.iconst 0, 1) := by decide +kernel
theorem dX6_takes_47 : decode cX6_takes 47 = .ok (.putfield 159, 3) := by decide +kernel
theorem dX6_takes_50 : decode cX6_takes 50 = .ok (.aload_n 0, 1) := by decide +kernel
theorem dX6_takes_51 : decode cX6_takes 51 = .ok (.dup, 1) := by decide +kernel
theorem dX6_takes_52 : decode cX6_takes 52 = .ok (.getfield 163, 3) := by decide +kernel
theorem dX6_takes_55 : decode cX6_takes 55 = .ok (.aload_n 0, 1) := by decide +kernel
theorem dX6_takes_56 : decode cX6_takes 56 = .ok (.getfield 159, 3) := by decide +kernel
theorem dX6_takes_59 : decode cX6_takes 59 = .ok (.ifCond .eq 7, 3) := by decide +kernel
theorem dX6_takes_62 : decode cX6_takes 62 = .ok (.iconst 0, 1) := by decide +kernel
theorem dX6_takes_63 : decode cX6_takes 63 = .ok (.goto 4, 3) := by decide +kernel
theorem dX6_takes_66 : decode cX6_takes 66 = .ok (.iconst 1, 1) := by decide +kernel
theorem dX6_takes_67 : decode cX6_takes 67 = .ok (.iadd, 1) := by decide +kernel
theorem dX6_takes_68 : decode cX6_takes 68 = .ok (.putfield 163, 3) := by decide +kernel
theorem dX6_takes_71 : decode cX6_takes 71 = .ok (.iload_n 3, 1) := by decide +kernel
theorem dX6_takes_72 : decode cX6_takes 72 = .ok (.iload_n 1, 1) := by decide +kernel
theorem dX6_takes_73 : decode cX6_takes 73 = .ok (.isub, 1) := by decide +kernel
theorem dX6_takes_74 : decode cX6_takes 74 = .ok (.ireturn, 1) := by decide +kernel
theorem dX6_takesNumber_0 : decode cX6_takesNumber 0 = .ok (.iload_n 1, 1) := by decide +kernel
theorem dX6_takesNumber_1 : decode cX6_takesNumber 1 = .ok (.aload_n 0, 1) := by decide +kernel
theorem dX6_takesNumber_2 : decode cX6_takesNumber 2 = .ok (.bipush 48, 2) := by decide +kernel
theorem dX6_takesNumber_4 : decode cX6_takesNumber 4 = .ok (.iload_n 1, 1) := by decide +kernel
theorem dX6_takesNumber_5 : decode cX6_takesNumber 5 = .ok (.iadd, 1) := by decide +kernel
theorem dX6_takesNumber_6 : decode cX6_takesNumber 6 = .ok (.bipush 57, 2) := by decide +kernel
theorem dX6_takesNumber_8 : decode cX6_takesNumber 8 = .ok (.invokevirtual 166, 3) := by decide +kernel
theorem dX6_takesNumber_11 : decode cX6_takesNumber 11 = .ok (.iadd, 1) := by decide +kernel
theorem dX6_takesNumber_12 : decode cX6_takesNumber 12 = .ok (.istore_n 3, 1) := by decide +kernel
theorem dX6_takesNumber_13 : decode cX6_takesNumber 13 = .ok (.iload_n 3, 1) := by decide +kernel
theorem dX6_takesNumber_14 : decode cX6_takesNumber 14 = .ok (.ifCond .le 7, 3) := by decide +kernel
theorem dX6_takesNumber_17 : decode cX6_takesNumber 17 = .ok (.iconst 1, 1) := by decide +kernel
theorem dX6_takesNumber_18 : decode cX6_takesNumber 18 = .ok (.goto 4, 3) := by decide +kernel
theorem dX6_takesNumber_21 : decode cX6_takesNumber 21 = .ok (.iconst 0, 1) := by decide +kernel
theorem dX6_takesNumber_22 : decode cX6_takesNumber 22 = .ok (.istore 4, 2) := by decide +kernel
theorem dX6_takesNumber_24 : decode cX6_takesNumber 24 = .ok (.iload 4, 2) := by decide +kernel
theorem dX6_takesNumber_26 : decode cX6_takesNumber 26 = .ok (.ifCond .eq 68, 3) := by decide +kernel
theorem dX6_takesNumber_29 : decode cX6_takesNumber 29 = .ok (.aload_n 0, 1) := by decide +kernel
theorem dX6_takesNumber_30 : decode cX6_takesNumber 30 = .ok (.bipush 48, 2) := by decide +kernel
theorem dX6_takesNumber_32 : decode cX6_takesNumber 32 = .ok (.bipush 57, 2) := by decide +kernel
theorem dX6_takesNumber_34 : decode cX6_takesNumber 34 = .ok (.invokevirtual 169, 3) := by decide +kernel
theorem dX6_takesNumber_37 : decode cX6_takesNumber 37 = .ok (.ifCond .eq 28, 3) := by decide +kernel
theorem dX6_takesNumber_40 : decode cX6_takesNumber 40 = .ok (.bipush 10, 2) := by decide +kernel
theorem dX6_takesNumber_42 : decode cX6_takesNumber 42 = .ok (.iload_n 3, 1) := by decide +kernel
theorem dX6_takesNumber_43 : decode cX6_takesNumber 43 = .ok (.imul, 1) := by decide +kernel
theorem dX6_takesNumber_44 : decode cX6_takesNumber 44 = .ok (.aload_n 0, 1) := by decide +kernel
theorem dX6_takesNumber_45 : decode cX6_takesNumber 45 = .ok (.getfield 25, 3) := by decide +kernel
theorem dX6_takesNumber_48 : decode cX6_takesNumber 48 = .ok (.aload_n 0, 1) := by decide +kernel
theorem dX6_takesNumber_49 : decode cX6_takesNumber 49 = .ok (.getfield 163, 3) := by decide +kernel
theorem dX6_takesNumber_52 : decode cX6_takesNumber 52 = .ok (.iaload, 1) := by decide +kernel
theorem dX6_takesNumber_53 : decode cX6_takesNumber 53 = .ok (.iadd, 1) := by decide +kernel
theorem dX6_takesNumber_54 : decode cX6_takesNumber 54 = .ok (.bipush 48, 2) := by decide +kernel
theorem dX6_takesNumber_56 : decode cX6_takesNumber 56 = .ok (.isub, 1) := by decide +kernel
theorem dX6_takesNumber_57 : decode cX6_takesNumber 57 = .ok (.iload_n 2, 1) := by decide +kernel
theorem dX6_takesNumber_58 : decode cX6_takesNumber 58 = .ok (.if_icmp .gt 7, 3) := by decide +kernel
theorem dX6_takesNumber_61 : decode cX6_takesNumber 61 = .ok (.iconst 1, 1) := by decide +kernel
theorem dX6_takesNumber_62 : decode cX6_takesNumber 62 = .ok (.goto 4, 3) := by decide +kernel
theorem dX6_takesNumber_65 : decode cX6_takesNumber 65 = .ok (.iconst 0, 1) := by decide +kernel
theorem dX6_takesNumber_66 : decode cX6_takesNumber 66 = .ok (.istore 4, 2) := by decide +kernel
theorem dX6_takesNumber_68 : decode cX6_takesNumber 68 = .ok (.iload 4, 2) := by decide +kernel
theorem dX6_takesNumber_70 : decode cX6_takesNumber 70 = .ok (.ifCond .eq 19, 3) := by decide +kernel
theorem dX6_takesNumber_73 : decode cX6_takesNumber 73 = .ok (.bipush 10, 2) := by decide +kernel
theorem dX6_takesNumber_75 : decode cX6_takesNumber 75 = .ok (.iload_n 3, 1) := by decide +kernel
theorem dX6_takesNumber_76 : decode cX6_takesNumber 76 = .ok (.imul, 1) := by decide +kernel
theorem dX6_takesNumber_77 : decode cX6_takesNumber 77 = .ok (.aload_n 0, 1) := by decide +kernel
theorem dX6_takesNumber_78 : decode cX6_takesNumber 78 = .ok (.bipush 48, 2) := by decide +kernel
theorem dX6_takesNumber_80 : decode cX6_takesNumber 80 = .ok (.bipush 57, 2) := by decide +kernel
theorem dX6_takesNumber_82 : decode cX6_takesNumber 82 = .ok (.invokevirtual 166, 3) := by decide +kernel
theorem dX6_takesNumber_85 : decode cX6_takesNumber 85 = .ok (.iadd, 1) := by decide +kernel
theorem dX6_takesNumber_86 : decode cX6_takesNumber 86 = .ok (.goto 4, 3) := by decide +kernel
theorem dX6_takesNumber_89 : decode cX6_takesNumber 89 = .ok (.iload_n 3, 1) := by decide +kernel
theorem dX6_takesNumber_90 : decode cX6_takesNumber 90 = .ok (.istore_n 3, 1) := by decide +kernel
theorem dX6_takesNumber_91 : decode cX6_takesNumber 91 = .ok (.goto (-67), 3) := by decide +kernel
theorem dX6_takesNumber_94 : decode cX6_takesNumber 94 = .ok (.iload_n 3, 1) := by decide +kernel
theorem dX6_takesNumber_95 : decode cX6_takesNumber 95 = .ok (.ireturn, 1) := by decide +kernel
theorem dX6_takesBehind_0 : decode cX6_takesBehind 0 = .ok (.aload_n 0, 1) := by decide +kernel
theorem dX6_takesBehind_1 : decode cX6_takesBehind 1 = .ok (.iload_n 1, 1) := by decide +kernel
theorem dX6_takesBehind_2 : decode cX6_takesBehind 2 = .ok (.iload_n 1, 1) := by decide +kernel
theorem dX6_takesBehind_3 : decode cX6_takesBehind 3 = .ok (.invokevirtual 169, 3) := by decide +kernel
theorem dX6_takesBehind_6 : decode cX6_takesBehind 6 = .ok (.istore 4, 2) := by decide +kernel
theorem dX6_takesBehind_8 : decode cX6_takesBehind 8 = .ok (.aload_n 0, 1) := by decide +kernel
theorem dX6_takesBehind_9 : decode cX6_takesBehind 9 = .ok (.dup, 1) := by decide +kernel
theorem dX6_takesBehind_10 : decode cX6_takesBehind 10 = .ok (.getfield 163, 3) := by decide +kernel
theorem dX6_takesBehind_13 : decode cX6_takesBehind 13 = .ok (.iload 4, 2) := by decide +kernel
theorem dX6_takesBehind_15 : decode cX6_takesBehind 15 = .ok (.ifCond .eq 7, 3) := by decide +kernel
theorem dX6_takesBehind_18 : decode cX6_takesBehind 18 = .ok (.iconst 1, 1) := by decide +kernel
theorem dX6_takesBehind_19 : decode cX6_takesBehind 19 = .ok (.goto 4, 3) := by decide +kernel
theorem dX6_takesBehind_22 : decode cX6_takesBehind 22 = .ok (.iconst 0, 1) := by decide +kernel
theorem dX6_takesBehind_23 : decode cX6_takesBehind 23 = .ok (.iadd, 1) := by decide +kernel
theorem dX6_takesBehind_24 : decode cX6_takesBehind 24 = .ok (.putfield 163, 3) := by decide +kernel
theorem dX6_takesBehind_27 : decode cX6_takesBehind 27 = .ok (.iload 4, 2) := by decide +kernel
theorem dX6_takesBehind_29 : decode cX6_takesBehind 29 = .ok (.ifCond .eq 12, 3) := by decide +kernel
theorem dX6_takesBehind_32 : decode cX6_takesBehind 32 = .ok (.aload_n 0, 1) := by decide +kernel
theorem dX6_takesBehind_33 : decode cX6_takesBehind 33 = .ok (.iconst 0, 1) := by decide +kernel
theorem dX6_takesBehind_34 : decode cX6_takesBehind 34 = .ok (.iload_n 2, 1) := by decide +kernel
theorem dX6_takesBehind_35 : decode cX6_takesBehind 35 = .ok (.invokevirtual 172, 3) := by decide +kernel
theorem dX6_takesBehind_38 : decode cX6_takesBehind 38 = .ok (.goto 4, 3) := by decide +kernel
theorem dX6_takesBehind_41 : decode cX6_takesBehind 41 = .ok (.iload_n 3, 1) := by decide +kernel
theorem dX6_takesBehind_42 : decode cX6_takesBehind 42 = .ok (.ireturn, 1) := by decide +kernel
theorem dX6_readThing_0 : decode cX6_readThing 0 = .ok (.aload_n 0, 1) := by decide +kernel
theorem dX6_readThing_1 : decode cX6_readThing 1 = .ok (.getfield 163, 3) := by decide +kernel
theorem dX6_readThing_4 : decode cX6_readThing 4 = .ok (.aload_n 0, 1) := by decide +kernel
theorem dX6_readThing_5 : decode cX6_readThing 5 = .ok (.getfield 156, 3) := by decide +kernel
theorem dX6_readThing_8 : decode cX6_readThing 8 = .ok (.if_icmp .ge 15, 3) := by decide +kernel
theorem dX6_readThing_11 : decode cX6_readThing 11 = .ok (.aload_n 0, 1) := by decide +kernel
theorem dX6_readThing_12 : decode cX6_readThing 12 = .ok (.getfield 25, 3) := by decide +kernel
theorem dX6_readThing_15 : decode cX6_readThing 15 = .ok (.aload_n 0, 1) := by decide +kernel
theorem dX6_readThing_16 : decode cX6_readThing 16 = .ok (.getfield 163, 3) := by decide +kernel
theorem dX6_readThing_19 : decode cX6_readThing 19 = .ok (.iaload, 1) := by decide +kernel
theorem dX6_readThing_20 : decode cX6_readThing 20 = .ok (.goto 4, 3) := by decide +kernel
theorem dX6_readThing_23 : decode cX6_readThing 23 = .ok (.iconst 0, 1) := by decide +kernel
theorem dX6_readThing_24 : decode cX6_readThing 24 = .ok (.istore_n 1, 1) := by decide +kernel
theorem dX6_readThing_25 : decode cX6_readThing 25 = .ok (.aload_n 0, 1) := by decide +kernel
theorem dX6_readThing_26 : decode cX6_readThing 26 = .ok (.aload_n 0, 1) := by decide +kernel
theorem dX6_readThing_27 : decode cX6_readThing 27 = .ok (.getfield 159, 3) := by decide +kernel
theorem dX6_readThing_30 : decode cX6_readThing 30 = .ok (.ifCond .ne 27, 3) := by decide +kernel
theorem dX6_readThing_33 : decode cX6_readThing 33 = .ok (.iload_n 1, 1) := by decide +kernel
theorem dX6_readThing_34 : decode cX6_readThing 34 = .ok (.bipush 98, 2) := by decide +kernel
theorem dX6_readThing_36 : decode cX6_readThing 36 = .ok (.if_icmp .eq 25, 3) := by decide +kernel
theorem dX6_readThing_39 : decode cX6_readThing 39 = .ok (.iload_n 1, 1) := by decide +kernel
theorem dX6_readThing_40 : decode cX6_readThing 40 = .ok (.bipush 112, 2) := by decide +kernel
theorem dX6_readThing_42 : decode cX6_readThing 42 = .ok (.if_icmp .eq 19, 3) := by decide +kernel
theorem dX6_readThing_45 : decode cX6_readThing 45 = .ok (.iload_n 1, 1) := by decide +kernel
theorem dX6_readThing_46 : decode cX6_readThing 46 = .ok (.bipush 114, 2) := by decide +kernel
theorem dX6_readThing_48 : decode cX6_readThing 48 = .ok (.if_icmp .eq 13, 3) := by decide +kernel
theorem dX6_readThing_51 : decode cX6_readThing 51 = .ok (.iload_n 1, 1) := by decide +kernel
theorem dX6_readThing_52 : decode cX6_readThing 52 = .ok (.bipush 46, 2) := by decide +kernel
theorem dX6_readThing_54 : decode cX6_readThing 54 = .ok (.if_icmp .eq 7, 3) := by decide +kernel
theorem dX6_readThing_57 : decode cX6_readThing 57 = .ok (.iconst 1, 1) := by decide +kernel
theorem dX6_readThing_58 : decode cX6_readThing 58 = .ok (.goto 4, 3) := by decide +kernel
theorem dX6_readThing_61 : decode cX6_readThing 61 = .ok (.iconst 0, 1) := by decide +kernel
theorem dX6_readThing_62 : decode cX6_readThing 62 = .ok (.putfield 159, 3) := by decide +kernel
theorem dX6_readThing_65 : decode cX6_readThing 65 = .ok (.aload_n 0, 1) := by decide +kernel
theorem dX6_readThing_66 : decode cX6_readThing 66 = .ok (.dup, 1) := by decide +kernel
theorem dX6_readThing_67 : decode cX6_readThing 67 = .ok (.getfield 163, 3) := by decide +kernel
theorem dX6_readThing_70 : decode cX6_readThing 70 = .ok (.aload_n 0, 1) := by decide +kernel
theorem dX6_readThing_71 : decode cX6_readThing 71 = .ok (.getfield 159, 3) := by decide +kernel
theorem dX6_readThing_74 : decode cX6_readThing 74 = .ok (.ifCond .eq 7, 3) := by decide +kernel
theorem dX6_readThing_77 : decode cX6_readThing 77 = .ok (.iconst 0, 1) := by decide +kernel
theorem dX6_readThing_78 : decode cX6_readThing 78 = .ok (.goto 4, 3) := by decide +kernel
theorem dX6_readThing_81 : decode cX6_readThing 81 = .ok (.iconst 1, 1) := by decide +kernel
theorem dX6_readThing_82 : decode cX6_readThing 82 = .ok (.iadd, 1) := by decide +kernel
theorem dX6_readThing_83 : decode cX6_readThing 83 = .ok (.putfield 163, 3) := by decide +kernel
theorem dX6_readThing_86 : decode cX6_readThing 86 = .ok (.aload_n 0, 1) := by decide +kernel
theorem dX6_readThing_87 : decode cX6_readThing 87 = .ok (.getfield 35, 3) := by decide +kernel
theorem dX6_readThing_90 : decode cX6_readThing 90 = .ok (.iconst 0, 1) := by decide +kernel
theorem dX6_readThing_91 : decode cX6_readThing 91 = .ok (.iload_n 1, 1) := by decide +kernel
theorem dX6_readThing_92 : decode cX6_readThing 92 = .ok (.iastore, 1) := by decide +kernel
theorem dX6_readThing_93 : decode cX6_readThing 93 = .ok (.iload_n 1, 1) := by decide +kernel
theorem dX6_readThing_94 : decode cX6_readThing 94 = .ok (.bipush 46, 2) := by decide +kernel
theorem dX6_readThing_96 : decode cX6_readThing 96 = .ok (.if_icmp .ne 19, 3) := by decide +kernel
theorem dX6_readThing_99 : decode cX6_readThing 99 = .ok (.aload_n 0, 1) := by decide +kernel
theorem dX6_readThing_100 : decode cX6_readThing 100 = .ok (.getfield 35, 3) := by decide +kernel
theorem dX6_readThing_103 : decode cX6_readThing 103 = .ok (.iconst 1, 1) := by decide +kernel
theorem dX6_readThing_104 : decode cX6_readThing 104 = .ok (.aload_n 0, 1) := by decide +kernel
theorem dX6_readThing_105 : decode cX6_readThing 105 = .ok (.iconst 1, 1) := by decide +kernel
theorem dX6_readThing_106 : decode cX6_readThing 106 = .ok (.bipush 99, 2) := by decide +kernel
theorem dX6_readThing_108 : decode cX6_readThing 108 = .ok (.invokevirtual 172, 3) := by decide +kernel
theorem dX6_readThing_111 : decode cX6_readThing 111 = .ok (.iastore, 1) := by decide +kernel
theorem dX6_readThing_112 : decode cX6_readThing 112 = .ok (.goto 124, 3) := by decide +kernel
theorem dX6_readThing_115 : decode cX6_readThing 115 = .ok (.iload_n 1, 1) := by decide +kernel
theorem dX6_readThing_116 : decode cX6_readThing 116 = .ok (.bipush 98, 2) := by decide +kernel
theorem dX6_readThing_118 : decode cX6_readThing 118 = .ok (.if_icmp .eq 9, 3) := by decide +kernel
theorem dX6_readThing_121 : decode cX6_readThing 121 = .ok (.iload_n 1, 1) := by decide +kernel
theorem dX6_readThing_122 : decode cX6_readThing 122 = .ok (.bipush 112, 2) := by decide +kernel
theorem dX6_readThing_124 : decode cX6_readThing 124 = .ok (.if_icmp .ne 112, 3) := by decide +kernel
theorem dX6_readThing_127 : decode cX6_readThing 127 = .ok (.aload_n 0, 1) := by decide +kernel
theorem dX6_readThing_128 : decode cX6_readThing 128 = .ok (.getfield 35, 3) := by decide +kernel
theorem dX6_readThing_131 : decode cX6_readThing 131 = .ok (.iconst 1, 1) := by decide +kernel
theorem dX6_readThing_132 : decode cX6_readThing 132 = .ok (.aload_n 0, 1) := by decide +kernel
theorem dX6_readThing_133 : decode cX6_readThing 133 = .ok (.bipush 48, 2) := by decide +kernel
theorem dX6_readThing_135 : decode cX6_readThing 135 = .ok (.bipush 55, 2) := by decide +kernel
theorem dX6_readThing_137 : decode cX6_readThing 137 = .ok (.invokevirtual 166, 3) := by decide +kernel
theorem dX6_readThing_140 : decode cX6_readThing 140 = .ok (.iastore, 1) := by decide +kernel
theorem dX6_readThing_141 : decode cX6_readThing 141 = .ok (.aload_n 0, 1) := by decide +kernel
theorem dX6_readThing_142 : decode cX6_readThing 142 = .ok (.bipush 58, 2) := by decide +kernel
theorem dX6_readThing_144 : decode cX6_readThing 144 = .ok (.bipush 58, 2) := by decide +kernel
theorem dX6_readThing_146 : decode cX6_readThing 146 = .ok (.invokevirtual 166, 3) := by decide +kernel
theorem dX6_readThing_149 : decode cX6_readThing 149 = .ok (.istore_n 2, 1) := by decide +kernel
theorem dX6_readThing_150 : decode cX6_readThing 150 = .ok (.aload_n 0, 1) := by decide +kernel
theorem dX6_readThing_151 : decode cX6_readThing 151 = .ok (.getfield 35, 3) := by decide +kernel
theorem dX6_readThing_154 : decode cX6_readThing 154 = .ok (.iconst 2, 1) := by decide +kernel
theorem dX6_readThing_155 : decode cX6_readThing 155 = .ok (.aload_n 0, 1) := by decide +kernel
theorem dX6_readThing_156 : decode cX6_readThing 156 = .ok (.iconst 1, 1) := by decide +kernel
theorem dX6_readThing_157 : decode cX6_readThing 157 = .ok (.iload_n 1, 1) := by decide +kernel
theorem dX6_readThing_158 : decode cX6_readThing 158 = .ok (.bipush 98, 2) := by decide +kernel
theorem dX6_readThing_160 : decode cX6_readThing 160 = .ok (.if_icmp .ne 9, 3) := by decide +kernel
theorem dX6_readThing_163 : decode cX6_readThing 163 = .ok (.sipush 9999, 3) := by decide +kernel
theorem dX6_readThing_166 : decode cX6_readThing 166 = .ok (.goto 5, 3) := by decide +kernel
theorem dX6_readThing_169 : decode cX6_readThing 169 = .ok (.ldc 95, 2) := by decide +kernel
theorem dX6_readThing_171 : decode cX6_readThing 171 = .ok (.invokevirtual 172, 3) := by decide +kernel
theorem dX6_readThing_174 : decode cX6_readThing 174 = .ok (.iastore, 1) := by decide +kernel
theorem dX6_readThing_175 : decode cX6_readThing 175 = .ok (.aload_n 0, 1) := by decide +kernel
theorem dX6_readThing_176 : decode cX6_readThing 176 = .ok (.getfield 35, 3) := by decide +kernel
theorem dX6_readThing_179 : decode cX6_readThing 179 = .ok (.iconst 3, 1) := by decide +kernel
theorem dX6_readThing_180 : decode cX6_readThing 180 = .ok (.iload_n 1, 1) := by decide +kernel
theorem dX6_readThing_181 : decode cX6_readThing 181 = .ok (.bipush 98, 2) := by decide +kernel
theorem dX6_readThing_183 : decode cX6_readThing 183 = .ok (.if_icmp .ne 16, 3) := by decide +kernel
theorem dX6_readThing_186 : decode cX6_readThing 186 = .ok (.aload_n 0, 1) := by decide +kernel
theorem dX6_readThing_187 : decode cX6_readThing 187 = .ok (.bipush 64, 2) := by decide +kernel
theorem dX6_readThing_189 : decode cX6_readThing 189 = .ok (.bipush 40, 2) := by decide +kernel
theorem dX6_readThing_191 : decode cX6_readThing 191 = .ok (.bipush 20, 2) := by decide +kernel
theorem dX6_readThing_193 : decode cX6_readThing 193 = .ok (.invokevirtual 175, 3) := by decide +kernel
theorem dX6_readThing_196 : decode cX6_readThing 196 = .ok (.goto 13, 3) := by decide +kernel
theorem dX6_readThing_199 : decode cX6_readThing 199 = .ok (.aload_n 0, 1) := by decide +kernel
theorem dX6_readThing_200 : decode cX6_readThing 200 = .ok (.bipush 35, 2) := by decide +kernel
theorem dX6_readThing_202 : decode cX6_readThing 202 = .ok (.bipush 39, 2) := by decide +kernel
theorem dX6_readThing_204 : decode cX6_readThing 204 = .ok (.bipush (-5), 2) := by decide +kernel
theorem dX6_readThing_206 : decode cX6_readThing 206 = .ok (.invokevirtual 175, 3) := by decide +kernel
theorem dX6_readThing_209 : decode cX6_readThing 209 = .ok (.iastore, 1) := by decide +kernel
theorem dX6_readThing_210 : decode cX6_readThing 210 = .ok (.aload_n 0, 1) := by decide +kernel
theorem dX6_readThing_211 : decode cX6_readThing 211 = .ok (.getfield 35, 3) := by decide +kernel
theorem dX6_readThing_214 : decode cX6_readThing 214 = .ok (.iconst 4, 1) := by decide +kernel
theorem dX6_readThing_215 : decode cX6_readThing 215 = .ok (.iload_n 1, 1) := by decide +kernel
theorem dX6_readThing_216 : decode cX6_readThing 216 = .ok (.bipush 98, 2) := by decide +kernel
theorem dX6_readThing_218 : decode cX6_readThing 218 = .ok (.if_icmp .ne 16, 3) := by decide +kernel
theorem dX6_readThing_221 : decode cX6_readThing 221 = .ok (.aload_n 0, 1) := by decide +kernel
theorem dX6_readThing_222 : decode cX6_readThing 222 = .ok (.bipush 43, 2) := by decide +kernel
theorem dX6_readThing_224 : decode cX6_readThing 224 = .ok (.bipush 99, 2) := by decide +kernel
theorem dX6_readThing_226 : decode cX6_readThing 226 = .ok (.bipush 14, 2) := by decide +kernel
theorem dX6_readThing_228 : decode cX6_readThing 228 = .ok (.invokevirtual 175, 3) := by decide +kernel
theorem dX6_readThing_231 : decode cX6_readThing 231 = .ok (.goto 4, 3) := by decide +kernel
theorem dX6_readThing_234 : decode cX6_readThing 234 = .ok (.iconst 0, 1) := by decide +kernel
theorem dX6_readThing_235 : decode cX6_readThing 235 = .ok (.iastore, 1) := by decide +kernel
theorem dX6_readThing_236 : decode cX6_readThing 236 = .ok (.return_, 1) := by decide +kernel
theorem dX6_paidByText_0 : decode cX6_paidByText 0 = .ok (.iload_n 3, 1) := by decide +kernel
theorem dX6_paidByText_1 : decode cX6_paidByText 1 = .ok (.bipush (-5), 2) := by decide +kernel
theorem dX6_paidByText_3 : decode cX6_paidByText 3 = .ok (.if_icmp .ne 24, 3) := by decide +kernel
theorem dX6_paidByText_6 : decode cX6_paidByText 6 = .ok (.aload_n 0, 1) := by decide +kernel
theorem dX6_paidByText_7 : decode cX6_paidByText 7 = .ok (.iload_n 1, 1) := by decide +kernel
theorem dX6_paidByText_8 : decode cX6_paidByText 8 = .ok (.iload_n 2, 1) := by decide +kernel
theorem dX6_paidByText_9 : decode cX6_paidByText 9 = .ok (.invokevirtual 125, 3) := by decide +kernel
theorem dX6_paidByText_12 : decode cX6_paidByText 12 = .ok (.ifCond .eq 8, 3) := by decide +kernel
theorem dX6_paidByText_15 : decode cX6_paidByText 15 = .ok (.bipush (-3), 2) := by decide +kernel
theorem dX6_paidByText_17 : decode cX6_paidByText 17 = .ok (.goto 9, 3) := by decide +kernel
theorem dX6_paidByText_20 : decode cX6_paidByText 20 = .ok (.aload_n 0, 1) := by decide +kernel
theorem dX6_paidByText_21 : decode cX6_paidByText 21 = .ok (.iload_n 1, 1) := by decide +kernel
theorem dX6_paidByText_22 : decode cX6_paidByText 22 = .ok (.iload_n 2, 1) := by decide +kernel
theorem dX6_paidByText_23 : decode cX6_paidByText 23 = .ok (.invokevirtual 112, 3) := by decide +kernel
theorem dX6_paidByText_26 : decode cX6_paidByText 26 = .ok (.ireturn, 1) := by decide +kernel
theorem dX6_paidByText_27 : decode cX6_paidByText 27 = .ok (.aload_n 0, 1) := by decide +kernel
theorem dX6_paidByText_28 : decode cX6_paidByText 28 = .ok (.iload_n 3, 1) := by decide +kernel
theorem dX6_paidByText_29 : decode cX6_paidByText 29 = .ok (.invokevirtual 131, 3) := by decide +kernel
theorem dX6_paidByText_32 : decode cX6_paidByText 32 = .ok (.ifCond .ne 5, 3) := by decide +kernel
theorem dX6_paidByText_35 : decode cX6_paidByText 35 = .ok (.iconst (-1), 1) := by decide +kernel
theorem dX6_paidByText_36 : decode cX6_paidByText 36 = .ok (.ireturn, 1) := by decide +kernel
theorem dX6_paidByText_37 : decode cX6_paidByText 37 = .ok (.aload_n 0, 1) := by decide +kernel
theorem dX6_paidByText_38 : decode cX6_paidByText 38 = .ok (.getfield 7, 3) := by decide +kernel
theorem dX6_paidByText_41 : decode cX6_paidByText 41 = .ok (.iload_n 3, 1) := by decide +kernel
theorem dX6_paidByText_42 : decode cX6_paidByText 42 = .ok (.iconst 0, 1) := by decide +kernel
theorem dX6_paidByText_43 : decode cX6_paidByText 43 = .ok (.invokestatic 51, 3) := by decide +kernel
theorem dX6_paidByText_46 : decode cX6_paidByText 46 = .ok (.iaload, 1) := by decide +kernel
theorem dX6_paidByText_47 : decode cX6_paidByText 47 = .ok (.iload_n 1, 1) := by decide +kernel
theorem dX6_paidByText_48 : decode cX6_paidByText 48 = .ok (.if_icmp .eq 6, 3) := by decide +kernel
theorem dX6_paidByText_51 : decode cX6_paidByText 51 = .ok (.bipush (-4), 2) := by decide +kernel
theorem dX6_paidByText_53 : decode cX6_paidByText 53 = .ok (.ireturn, 1) := by decide +kernel
theorem dX6_paidByText_54 : decode cX6_paidByText 54 = .ok (.aload_n 0, 1) := by decide +kernel
theorem dX6_paidByText_55 : decode cX6_paidByText 55 = .ok (.iload_n 3, 1) := by decide +kernel
theorem dX6_paidByText_56 : decode cX6_paidByText 56 = .ok (.iload_n 2, 1) := by decide +kernel
theorem dX6_paidByText_57 : decode cX6_paidByText 57 = .ok (.invokevirtual 134, 3) := by decide +kernel
theorem dX6_paidByText_60 : decode cX6_paidByText 60 = .ok (.istore 4, 2) := by decide +kernel
theorem dX6_paidByText_62 : decode cX6_paidByText 62 = .ok (.iload 4, 2) := by decide +kernel
theorem dX6_paidByText_64 : decode cX6_paidByText 64 = .ok (.ifCond .ge 8, 3) := by decide +kernel
theorem dX6_paidByText_67 : decode cX6_paidByText 67 = .ok (.iload 4, 2) := by decide +kernel
theorem dX6_paidByText_69 : decode cX6_paidByText 69 = .ok (.goto 9, 3) := by decide +kernel
theorem dX6_paidByText_72 : decode cX6_paidByText 72 = .ok (.aload_n 0, 1) := by decide +kernel
theorem dX6_paidByText_73 : decode cX6_paidByText 73 = .ok (.iload_n 3, 1) := by decide +kernel
theorem dX6_paidByText_74 : decode cX6_paidByText 74 = .ok (.iload_n 2, 1) := by decide +kernel
theorem dX6_paidByText_75 : decode cX6_paidByText 75 = .ok (.invokevirtual 128, 3) := by decide +kernel
theorem dX6_paidByText_78 : decode cX6_paidByText 78 = .ok (.ireturn, 1) := by decide +kernel
theorem dX6_does_0 : decode cX6_does 0 = .ok (.aload_n 0, 1) := by decide +kernel
theorem dX6_does_1 : decode cX6_does 1 = .ok (.getfield 35, 3) := by decide +kernel
theorem dX6_does_4 : decode cX6_does 4 = .ok (.iconst 0, 1) := by decide +kernel
theorem dX6_does_5 : decode cX6_does 5 = .ok (.iaload, 1) := by decide +kernel
theorem dX6_does_6 : decode cX6_does 6 = .ok (.lookupswitch 91 #[(98, 34), (112, 63), (114, 86)], 34) := by decide +kernel
theorem dX6_does_40 : decode cX6_does 40 = .ok (.aload_n 0, 1) := by decide +kernel
theorem dX6_does_41 : decode cX6_does 41 = .ok (.aload_n 0, 1) := by decide +kernel
theorem dX6_does_42 : decode cX6_does 42 = .ok (.getfield 35, 3) := by decide +kernel
theorem dX6_does_45 : decode cX6_does 45 = .ok (.iconst 1, 1) := by decide +kernel
theorem dX6_does_46 : decode cX6_does 46 = .ok (.iaload, 1) := by decide +kernel
theorem dX6_does_47 : decode cX6_does 47 = .ok (.aload_n 0, 1) := by decide +kernel
theorem dX6_does_48 : decode cX6_does 48 = .ok (.getfield 35, 3) := by decide +kernel
theorem dX6_does_51 : decode cX6_does 51 = .ok (.iconst 2, 1) := by decide +kernel
theorem dX6_does_52 : decode cX6_does 52 = .ok (.iaload, 1) := by decide +kernel
theorem dX6_does_53 : decode cX6_does 53 = .ok (.aload_n 0, 1) := by decide +kernel
theorem dX6_does_54 : decode cX6_does 54 = .ok (.getfield 35, 3) := by decide +kernel
theorem dX6_does_57 : decode cX6_does 57 = .ok (.iconst 3, 1) := by decide +kernel
theorem dX6_does_58 : decode cX6_does 58 = .ok (.iaload, 1) := by decide +kernel
theorem dX6_does_59 : decode cX6_does 59 = .ok (.aload_n 0, 1) := by decide +kernel
theorem dX6_does_60 : decode cX6_does 60 = .ok (.getfield 35, 3) := by decide +kernel
theorem dX6_does_63 : decode cX6_does 63 = .ok (.iconst 4, 1) := by decide +kernel
theorem dX6_does_64 : decode cX6_does 64 = .ok (.iaload, 1) := by decide +kernel
theorem dX6_does_65 : decode cX6_does 65 = .ok (.invokevirtual 105, 3) := by decide +kernel
theorem dX6_does_68 : decode cX6_does 68 = .ok (.ireturn, 1) := by decide +kernel
theorem dX6_does_69 : decode cX6_does 69 = .ok (.aload_n 0, 1) := by decide +kernel
theorem dX6_does_70 : decode cX6_does 70 = .ok (.aload_n 0, 1) := by decide +kernel
theorem dX6_does_71 : decode cX6_does 71 = .ok (.getfield 35, 3) := by decide +kernel
theorem dX6_does_74 : decode cX6_does 74 = .ok (.iconst 1, 1) := by decide +kernel
theorem dX6_does_75 : decode cX6_does 75 = .ok (.iaload, 1) := by decide +kernel
theorem dX6_does_76 : decode cX6_does 76 = .ok (.aload_n 0, 1) := by decide +kernel
theorem dX6_does_77 : decode cX6_does 77 = .ok (.getfield 35, 3) := by decide +kernel
theorem dX6_does_80 : decode cX6_does 80 = .ok (.iconst 2, 1) := by decide +kernel
theorem dX6_does_81 : decode cX6_does 81 = .ok (.iaload, 1) := by decide +kernel
theorem dX6_does_82 : decode cX6_does 82 = .ok (.aload_n 0, 1) := by decide +kernel
theorem dX6_does_83 : decode cX6_does 83 = .ok (.getfield 35, 3) := by decide +kernel
theorem dX6_does_86 : decode cX6_does 86 = .ok (.iconst 3, 1) := by decide +kernel
theorem dX6_does_87 : decode cX6_does 87 = .ok (.iaload, 1) := by decide +kernel
theorem dX6_does_88 : decode cX6_does 88 = .ok (.invokevirtual 179, 3) := by decide +kernel
theorem dX6_does_91 : decode cX6_does 91 = .ok (.ireturn, 1) := by decide +kernel
theorem dX6_does_92 : decode cX6_does 92 = .ok (.aload_n 0, 1) := by decide +kernel
theorem dX6_does_93 : decode cX6_does 93 = .ok (.invokevirtual 141, 3) := by decide +kernel
theorem dX6_does_96 : decode cX6_does 96 = .ok (.ireturn, 1) := by decide +kernel
theorem dX6_does_97 : decode cX6_does 97 = .ok (.aload_n 0, 1) := by decide +kernel
theorem dX6_does_98 : decode cX6_does 98 = .ok (.getfield 7, 3) := by decide +kernel
theorem dX6_does_101 : decode cX6_does 101 = .ok (.iconst 0, 1) := by decide +kernel
theorem dX6_does_102 : decode cX6_does 102 = .ok (.iaload, 1) := by decide +kernel
theorem dX6_does_103 : decode cX6_does 103 = .ok (.aload_n 0, 1) := by decide +kernel
theorem dX6_does_104 : decode cX6_does 104 = .ok (.getfield 35, 3) := by decide +kernel
theorem dX6_does_107 : decode cX6_does 107 = .ok (.iconst 1, 1) := by decide +kernel
theorem dX6_does_108 : decode cX6_does 108 = .ok (.iaload, 1) := by decide +kernel
theorem dX6_does_109 : decode cX6_does 109 = .ok (.iadd, 1) := by decide +kernel
theorem dX6_does_110 : decode cX6_does 110 = .ok (.sipush 9999, 3) := by decide +kernel
theorem dX6_does_113 : decode cX6_does 113 = .ok (.if_icmp .gt 7, 3) := by decide +kernel
theorem dX6_does_116 : decode cX6_does 116 = .ok (.iconst 1, 1) := by decide +kernel
theorem dX6_does_117 : decode cX6_does 117 = .ok (.goto 4, 3) := by decide +kernel
theorem dX6_does_120 : decode cX6_does 120 = .ok (.iconst 0, 1) := by decide +kernel
theorem dX6_does_121 : decode cX6_does 121 = .ok (.istore_n 1, 1) := by decide +kernel
theorem dX6_does_122 : decode cX6_does 122 = .ok (.aload_n 0, 1) := by decide +kernel
theorem dX6_does_123 : decode cX6_does 123 = .ok (.getfield 7, 3) := by decide +kernel
theorem dX6_does_126 : decode cX6_does 126 = .ok (.iconst 0, 1) := by decide +kernel
theorem dX6_does_127 : decode cX6_does 127 = .ok (.dup2, 1) := by decide +kernel
theorem dX6_does_128 : decode cX6_does 128 = .ok (.iaload, 1) := by decide +kernel
theorem dX6_does_129 : decode cX6_does 129 = .ok (.iload_n 1, 1) := by decide +kernel
theorem dX6_does_130 : decode cX6_does 130 = .ok (.ifCond .eq 12, 3) := by decide +kernel
theorem dX6_does_133 : decode cX6_does 133 = .ok (.aload_n 0, 1) := by decide +kernel
theorem dX6_does_134 : decode cX6_does 134 = .ok (.getfield 35, 3) := by decide +kernel
theorem dX6_does_137 : decode cX6_does 137 = .ok (.iconst 1, 1) := by decide +kernel
theorem dX6_does_138 : decode cX6_does 138 = .ok (.iaload, 1) := by decide +kernel
theorem dX6_does_139 : decode cX6_does 139 = .ok (.goto 4, 3) := by decide +kernel
theorem dX6_does_142 : decode cX6_does 142 = .ok (.iconst 0, 1) := by decide +kernel
theorem dX6_does_143 : decode cX6_does 143 = .ok (.iadd, 1) := by decide +kernel
theorem dX6_does_144 : decode cX6_does 144 = .ok (.iastore, 1) := by decide +kernel
theorem dX6_does_145 : decode cX6_does 145 = .ok (.iload_n 1, 1) := by decide +kernel
theorem dX6_does_146 : decode cX6_does 146 = .ok (.ifCond .eq 7, 3) := by decide +kernel
theorem dX6_does_149 : decode cX6_does 149 = .ok (.iconst 0, 1) := by decide +kernel
theorem dX6_does_150 : decode cX6_does 150 = .ok (.goto 5, 3) := by decide +kernel
theorem dX6_does_153 : decode cX6_does 153 = .ok (.bipush (-3), 2) := by decide +kernel
theorem dX6_does_155 : decode cX6_does 155 = .ok (.ireturn, 1) := by decide +kernel
theorem dX6_goes_0 : decode cX6_goes 0 = .ok (.aload_n 0, 1) := by decide +kernel
theorem dX6_goes_1 : decode cX6_goes 1 = .ok (.iconst 0, 1) := by decide +kernel
theorem dX6_goes_2 : decode cX6_goes 2 = .ok (.putfield 163, 3) := by decide +kernel
theorem dX6_goes_5 : decode cX6_goes 5 = .ok (.aload_n 0, 1) := by decide +kernel
theorem dX6_goes_6 : decode cX6_goes 6 = .ok (.iconst 0, 1) := by decide +kernel
theorem dX6_goes_7 : decode cX6_goes 7 = .ok (.putfield 159, 3) := by decide +kernel
theorem dX6_goes_10 : decode cX6_goes 10 = .ok (.aload_n 0, 1) := by decide +kernel
theorem dX6_goes_11 : decode cX6_goes 11 = .ok (.iconst 0, 1) := by decide +kernel
theorem dX6_goes_12 : decode cX6_goes 12 = .ok (.putfield 182, 3) := by decide +kernel
theorem dX6_goes_15 : decode cX6_goes 15 = .ok (.iconst 0, 1) := by decide +kernel
theorem dX6_goes_16 : decode cX6_goes 16 = .ok (.istore_n 2, 1) := by decide +kernel
theorem dX6_goes_17 : decode cX6_goes 17 = .ok (.iconst 1, 1) := by decide +kernel
theorem dX6_goes_18 : decode cX6_goes 18 = .ok (.istore_n 3, 1) := by decide +kernel
theorem dX6_goes_19 : decode cX6_goes 19 = .ok (.iload_n 3, 1) := by decide +kernel
theorem dX6_goes_20 : decode cX6_goes 20 = .ok (.ifCond .eq 110, 3) := by decide +kernel
theorem dX6_goes_23 : decode cX6_goes 23 = .ok (.aload_n 0, 1) := by decide +kernel
theorem dX6_goes_24 : decode cX6_goes 24 = .ok (.invokevirtual 185, 3) := by decide +kernel
theorem dX6_goes_27 : decode cX6_goes 27 = .ok (.iload_n 1, 1) := by decide +kernel
theorem dX6_goes_28 : decode cX6_goes 28 = .ok (.ifCond .eq 10, 3) := by decide +kernel
theorem dX6_goes_31 : decode cX6_goes 31 = .ok (.aload_n 0, 1) := by decide +kernel
theorem dX6_goes_32 : decode cX6_goes 32 = .ok (.invokevirtual 188, 3) := by decide +kernel
theorem dX6_goes_35 : decode cX6_goes 35 = .ok (.goto 4, 3) := by decide +kernel
theorem dX6_goes_38 : decode cX6_goes 38 = .ok (.iconst 0, 1) := by decide +kernel
theorem dX6_goes_39 : decode cX6_goes 39 = .ok (.istore 4, 2) := by decide +kernel
theorem dX6_goes_41 : decode cX6_goes 41 = .ok (.aload_n 0, 1) := by decide +kernel
theorem dX6_goes_42 : decode cX6_goes 42 = .ok (.iload 4, 2) := by decide +kernel
theorem dX6_goes_44 : decode cX6_goes 44 = .ok (.ifCond .ge 8, 3) := by decide +kernel
theorem dX6_goes_47 : decode cX6_goes 47 = .ok (.iload 4, 2) := by decide +kernel
theorem dX6_goes_49 : decode cX6_goes 49 = .ok (.goto 4, 3) := by decide +kernel
theorem dX6_goes_52 : decode cX6_goes 52 = .ok (.iconst 0, 1) := by decide +kernel
theorem dX6_goes_53 : decode cX6_goes 53 = .ok (.putfield 182, 3) := by decide +kernel
theorem dX6_goes_56 : decode cX6_goes 56 = .ok (.iload_n 2, 1) := by decide +kernel
theorem dX6_goes_57 : decode cX6_goes 57 = .ok (.iload 4, 2) := by decide +kernel
theorem dX6_goes_59 : decode cX6_goes 59 = .ok (.ifCond .ge 7, 3) := by decide +kernel
theorem dX6_goes_62 : decode cX6_goes 62 = .ok (.iconst 0, 1) := by decide +kernel
theorem dX6_goes_63 : decode cX6_goes 63 = .ok (.goto 4, 3) := by decide +kernel
theorem dX6_goes_66 : decode cX6_goes 66 = .ok (.iconst 1, 1) := by decide +kernel
theorem dX6_goes_67 : decode cX6_goes 67 = .ok (.iadd, 1) := by decide +kernel
theorem dX6_goes_68 : decode cX6_goes 68 = .ok (.istore_n 2, 1) := by decide +kernel
theorem dX6_goes_69 : decode cX6_goes 69 = .ok (.aload_n 0, 1) := by decide +kernel
theorem dX6_goes_70 : decode cX6_goes 70 = .ok (.getfield 182, 3) := by decide +kernel
theorem dX6_goes_73 : decode cX6_goes 73 = .ok (.ifCond .ne 25, 3) := by decide +kernel
theorem dX6_goes_76 : decode cX6_goes 76 = .ok (.aload_n 0, 1) := by decide +kernel
theorem dX6_goes_77 : decode cX6_goes 77 = .ok (.getfield 159, 3) := by decide +kernel
theorem dX6_goes_80 : decode cX6_goes 80 = .ok (.ifCond .ne 18, 3) := by decide +kernel
theorem dX6_goes_83 : decode cX6_goes 83 = .ok (.aload_n 0, 1) := by decide +kernel
theorem dX6_goes_84 : decode cX6_goes 84 = .ok (.getfield 163, 3) := by decide +kernel
theorem dX6_goes_87 : decode cX6_goes 87 = .ok (.aload_n 0, 1) := by decide +kernel
theorem dX6_goes_88 : decode cX6_goes 88 = .ok (.getfield 156, 3) := by decide +kernel
theorem dX6_goes_91 : decode cX6_goes 91 = .ok (.if_icmp .ge 7, 3) := by decide +kernel
theorem dX6_goes_94 : decode cX6_goes 94 = .ok (.iconst 1, 1) := by decide +kernel
theorem dX6_goes_95 : decode cX6_goes 95 = .ok (.goto 4, 3) := by decide +kernel
theorem dX6_goes_98 : decode cX6_goes 98 = .ok (.iconst 0, 1) := by decide +kernel
theorem dX6_goes_99 : decode cX6_goes 99 = .ok (.istore_n 3, 1) := by decide +kernel
theorem dX6_goes_100 : decode cX6_goes 100 = .ok (.iload_n 3, 1) := by decide +kernel
theorem dX6_goes_101 : decode cX6_goes 101 = .ok (.ifCond .eq 26, 3) := by decide +kernel
theorem dX6_goes_104 : decode cX6_goes 104 = .ok (.aload_n 0, 1) := by decide +kernel
theorem dX6_goes_105 : decode cX6_goes 105 = .ok (.bipush 59, 2) := by decide +kernel
theorem dX6_goes_107 : decode cX6_goes 107 = .ok (.bipush 59, 2) := by decide +kernel
theorem dX6_goes_109 : decode cX6_goes 109 = .ok (.invokevirtual 166, 3) := by decide +kernel
theorem dX6_goes_112 : decode cX6_goes 112 = .ok (.istore 5, 2) := by decide +kernel
theorem dX6_goes_114 : decode cX6_goes 114 = .ok (.aload_n 0, 1) := by decide +kernel
theorem dX6_goes_115 : decode cX6_goes 115 = .ok (.getfield 159, 3) := by decide +kernel
theorem dX6_goes_118 : decode cX6_goes 118 = .ok (.ifCond .ne 7, 3) := by decide +kernel
theorem dX6_goes_121 : decode cX6_goes 121 = .ok (.iconst 1, 1) := by decide +kernel
theorem dX6_goes_122 : decode cX6_goes 122 = .ok (.goto 4, 3) := by decide +kernel
theorem dX6_goes_125 : decode cX6_goes 125 = .ok (.iconst 0, 1) := by decide +kernel
theorem dX6_goes_126 : decode cX6_goes 126 = .ok (.istore_n 3, 1) := by decide +kernel
theorem dX6_goes_127 : decode cX6_goes 127 = .ok (.goto (-108), 3) := by decide +kernel
theorem dX6_goes_130 : decode cX6_goes 130 = .ok (.iload_n 2, 1) := by decide +kernel
theorem dX6_goes_131 : decode cX6_goes 131 = .ok (.ireturn, 1) := by decide +kernel
theorem dX6_perform_0 : decode cX6_perform 0 = .ok (.aload_n 0, 1) := by decide +kernel
theorem dX6_perform_1 : decode cX6_perform 1 = .ok (.iconst 0, 1) := by decide +kernel
theorem dX6_perform_2 : decode cX6_perform 2 = .ok (.invokevirtual 191, 3) := by decide +kernel
theorem dX6_perform_5 : decode cX6_perform 5 = .ok (.istore_n 1, 1) := by decide +kernel
theorem dX6_perform_6 : decode cX6_perform 6 = .ok (.aload_n 0, 1) := by decide +kernel
theorem dX6_perform_7 : decode cX6_perform 7 = .ok (.getfield 159, 3) := by decide +kernel
theorem dX6_perform_10 : decode cX6_perform 10 = .ok (.ifCond .eq 11, 3) := by decide +kernel
theorem dX6_perform_13 : decode cX6_perform 13 = .ok (.bipush (-100), 2) := by decide +kernel
theorem dX6_perform_15 : decode cX6_perform 15 = .ok (.aload_n 0, 1) := by decide +kernel
theorem dX6_perform_16 : decode cX6_perform 16 = .ok (.getfield 163, 3) := by decide +kernel
theorem dX6_perform_19 : decode cX6_perform 19 = .ok (.isub, 1) := by decide +kernel
theorem dX6_perform_20 : decode cX6_perform 20 = .ok (.ireturn, 1) := by decide +kernel
theorem dX6_perform_21 : decode cX6_perform 21 = .ok (.aload_n 0, 1) := by decide +kernel
theorem dX6_perform_22 : decode cX6_perform 22 = .ok (.invokevirtual 45, 3) := by decide +kernel
theorem dX6_perform_25 : decode cX6_perform 25 = .ok (.aload_n 0, 1) := by decide +kernel
theorem dX6_perform_26 : decode cX6_perform 26 = .ok (.iconst 1, 1) := by decide +kernel
theorem dX6_perform_27 : decode cX6_perform 27 = .ok (.invokevirtual 191, 3) := by decide +kernel
theorem dX6_perform_30 : decode cX6_perform 30 = .ok (.istore_n 2, 1) := by decide +kernel
theorem dX6_perform_31 : decode cX6_perform 31 = .ok (.aload_n 0, 1) := by decide +kernel
theorem dX6_perform_32 : decode cX6_perform 32 = .ok (.getfield 182, 3) := by decide +kernel
theorem dX6_perform_35 : decode cX6_perform 35 = .ok (.ifCond .ge 46, 3) := by decide +kernel
theorem dX6_perform_38 : decode cX6_perform 38 = .ok (.aload_n 0, 1) := by decide +kernel
theorem dX6_perform_39 : decode cX6_perform 39 = .ok (.iload_n 2, 1) := by decide +kernel
theorem dX6_perform_40 : decode cX6_perform 40 = .ok (.putfield 28, 3) := by decide +kernel
theorem dX6_perform_43 : decode cX6_perform 43 = .ok (.aload_n 0, 1) := by decide +kernel
theorem dX6_perform_44 : decode cX6_perform 44 = .ok (.aload_n 0, 1) := by decide +kernel
theorem dX6_perform_45 : decode cX6_perform 45 = .ok (.getfield 182, 3) := by decide +kernel
theorem dX6_perform_48 : decode cX6_perform 48 = .ok (.putfield 32, 3) := by decide +kernel
theorem dX6_perform_51 : decode cX6_perform 51 = .ok (.iconst 0, 1) := by decide +kernel
theorem dX6_perform_52 : decode cX6_perform 52 = .ok (.istore_n 3, 1) := by decide +kernel
theorem dX6_perform_53 : decode cX6_perform 53 = .ok (.iload_n 3, 1) := by decide +kernel
theorem dX6_perform_54 : decode cX6_perform 54 = .ok (.sipush 713, 3) := by decide +kernel
theorem dX6_perform_57 : decode cX6_perform 57 = .ok (.if_icmp .ge 21, 3) := by decide +kernel
theorem dX6_perform_60 : decode cX6_perform 60 = .ok (.aload_n 0, 1) := by decide +kernel
theorem dX6_perform_61 : decode cX6_perform 61 = .ok (.getfield 7, 3) := by decide +kernel
theorem dX6_perform_64 : decode cX6_perform 64 = .ok (.iload_n 3, 1) := by decide +kernel
theorem dX6_perform_65 : decode cX6_perform 65 = .ok (.aload_n 0, 1) := by decide +kernel
theorem dX6_perform_66 : decode cX6_perform 66 = .ok (.getfield 16, 3) := by decide +kernel
theorem dX6_perform_69 : decode cX6_perform 69 = .ok (.iload_n 3, 1) := by decide +kernel
theorem dX6_perform_70 : decode cX6_perform 70 = .ok (.iaload, 1) := by decide +kernel
theorem dX6_perform_71 : decode cX6_perform 71 = .ok (.iastore, 1) := by decide +kernel
theorem dX6_perform_72 : decode cX6_perform 72 = .ok (.iinc 3 1, 3) := by decide +kernel
theorem dX6_perform_75 : decode cX6_perform 75 = .ok (.goto (-22), 3) := by decide +kernel
theorem dX6_perform_78 : decode cX6_perform 78 = .ok (.bipush (-4), 2) := by decide +kernel
theorem dX6_perform_80 : decode cX6_perform 80 = .ok (.ireturn, 1) := by decide +kernel
theorem dX6_perform_81 : decode cX6_perform 81 = .ok (.aload_n 0, 1) := by decide +kernel
theorem dX6_perform_82 : decode cX6_perform 82 = .ok (.invokevirtual 48, 3) := by decide +kernel
theorem dX6_perform_85 : decode cX6_perform 85 = .ok (.iload_n 2, 1) := by decide +kernel
theorem dX6_perform_86 : decode cX6_perform 86 = .ok (.ireturn, 1) := by decide +kernel
theorem dX6_stopped_0 : decode cX6_stopped 0 = .ok (.iload_n 1, 1) := by decide +kernel
theorem dX6_stopped_1 : decode cX6_stopped 1 = .ok (.ifCond .ne 10, 3) := by decide +kernel
theorem dX6_stopped_4 : decode cX6_stopped 4 = .ok (.aload_n 0, 1) := by decide +kernel
theorem dX6_stopped_5 : decode cX6_stopped 5 = .ok (.getfield 28, 3) := by decide +kernel
theorem dX6_stopped_8 : decode cX6_stopped 8 = .ok (.goto 17, 3) := by decide +kernel
theorem dX6_stopped_11 : decode cX6_stopped 11 = .ok (.iload_n 1, 1) := by decide +kernel
theorem dX6_stopped_12 : decode cX6_stopped 12 = .ok (.iconst 1, 1) := by decide +kernel
theorem dX6_stopped_13 : decode cX6_stopped 13 = .ok (.if_icmp .ne 10, 3) := by decide +kernel
theorem dX6_stopped_16 : decode cX6_stopped 16 = .ok (.aload_n 0, 1) := by decide +kernel
theorem dX6_stopped_17 : decode cX6_stopped 17 = .ok (.getfield 32, 3) := by decide +kernel
theorem dX6_stopped_20 : decode cX6_stopped 20 = .ok (.goto 5, 3) := by decide +kernel
theorem dX6_stopped_23 : decode cX6_stopped 23 = .ok (.bipush (-2), 2) := by decide +kernel
theorem dX6_stopped_25 : decode cX6_stopped 25 = .ok (.ireturn, 1) := by decide +kernel
theorem dX6_undo_0 : decode cX6_undo 0 = .ok (.aload_n 0, 1) := by decide +kernel
theorem dX6_undo_1 : decode cX6_undo 1 = .ok (.getfield 42, 3) := by decide +kernel
theorem dX6_undo_4 : decode cX6_undo 4 = .ok (.ifCond .ne 6, 3) := by decide +kernel
theorem dX6_undo_7 : decode cX6_undo 7 = .ok (.bipush (-5), 2) := by decide +kernel
theorem dX6_undo_9 : decode cX6_undo 9 = .ok (.ireturn, 1) := by decide +kernel
theorem dX6_undo_10 : decode cX6_undo 10 = .ok (.aload_n 0, 1) := by decide +kernel
theorem dX6_undo_11 : decode cX6_undo 11 = .ok (.dup, 1) := by decide +kernel
theorem dX6_undo_12 : decode cX6_undo 12 = .ok (.getfield 42, 3) := by decide +kernel
theorem dX6_undo_15 : decode cX6_undo 15 = .ok (.iconst 1, 1) := by decide +kernel
theorem dX6_undo_16 : decode cX6_undo 16 = .ok (.isub, 1) := by decide +kernel
theorem dX6_undo_17 : decode cX6_undo 17 = .ok (.putfield 42, 3) := by decide +kernel
theorem dX6_undo_20 : decode cX6_undo 20 = .ok (.iconst 0, 1) := by decide +kernel
theorem dX6_undo_21 : decode cX6_undo 21 = .ok (.istore_n 1, 1) := by decide +kernel
theorem dX6_undo_22 : decode cX6_undo 22 = .ok (.iload_n 1, 1) := by decide +kernel
theorem dX6_undo_23 : decode cX6_undo 23 = .ok (.sipush 713, 3) := by decide +kernel
theorem dX6_undo_26 : decode cX6_undo 26 = .ok (.if_icmp .ge 30, 3) := by decide +kernel
theorem dX6_undo_29 : decode cX6_undo 29 = .ok (.aload_n 0, 1) := by decide +kernel
theorem dX6_undo_30 : decode cX6_undo 30 = .ok (.getfield 7, 3) := by decide +kernel
theorem dX6_undo_33 : decode cX6_undo 33 = .ok (.iload_n 1, 1) := by decide +kernel
theorem dX6_undo_34 : decode cX6_undo 34 = .ok (.aload_n 0, 1) := by decide +kernel
theorem dX6_undo_35 : decode cX6_undo 35 = .ok (.getfield 22, 3) := by decide +kernel
theorem dX6_undo_38 : decode cX6_undo 38 = .ok (.sipush 713, 3) := by decide +kernel
theorem dX6_undo_41 : decode cX6_undo 41 = .ok (.aload_n 0, 1) := by decide +kernel
theorem dX6_undo_42 : decode cX6_undo 42 = .ok (.getfield 42, 3) := by decide +kernel
theorem dX6_undo_45 : decode cX6_undo 45 = .ok (.imul, 1) := by decide +kernel
theorem dX6_undo_46 : decode cX6_undo 46 = .ok (.iload_n 1, 1) := by decide +kernel
theorem dX6_undo_47 : decode cX6_undo 47 = .ok (.iadd, 1) := by decide +kernel
theorem dX6_undo_48 : decode cX6_undo 48 = .ok (.iaload, 1) := by decide +kernel
theorem dX6_undo_49 : decode cX6_undo 49 = .ok (.iastore, 1) := by decide +kernel
theorem dX6_undo_50 : decode cX6_undo 50 = .ok (.iinc 1 1, 3) := by decide +kernel
theorem dX6_undo_53 : decode cX6_undo 53 = .ok (.goto (-31), 3) := by decide +kernel
theorem dX6_undo_56 : decode cX6_undo 56 = .ok (.aload_n 0, 1) := by decide +kernel
theorem dX6_undo_57 : decode cX6_undo 57 = .ok (.getfield 42, 3) := by decide +kernel
theorem dX6_undo_60 : decode cX6_undo 60 = .ok (.ireturn, 1) := by decide +kernel
theorem dX6_keep_0 : decode cX6_keep 0 = .ok (.iconst 0, 1) := by decide +kernel
theorem dX6_keep_1 : decode cX6_keep 1 = .ok (.istore_n 1, 1) := by decide +kernel
theorem dX6_keep_2 : decode cX6_keep 2 = .ok (.iload_n 1, 1) := by decide +kernel
theorem dX6_keep_3 : decode cX6_keep 3 = .ok (.sipush 713, 3) := by decide +kernel
theorem dX6_keep_6 : decode cX6_keep 6 = .ok (.if_icmp .ge 21, 3) := by decide +kernel
theorem dX6_keep_9 : decode cX6_keep 9 = .ok (.aload_n 0, 1) := by decide +kernel
theorem dX6_keep_10 : decode cX6_keep 10 = .ok (.getfield 19, 3) := by decide +kernel
theorem dX6_keep_13 : decode cX6_keep 13 = .ok (.iload_n 1, 1) := by decide +kernel
theorem dX6_keep_14 : decode cX6_keep 14 = .ok (.aload_n 0, 1) := by decide +kernel
theorem dX6_keep_15 : decode cX6_keep 15 = .ok (.getfield 7, 3) := by decide +kernel
theorem dX6_keep_18 : decode cX6_keep 18 = .ok (.iload_n 1, 1) := by decide +kernel
theorem dX6_keep_19 : decode cX6_keep 19 = .ok (.iaload, 1) := by decide +kernel
theorem dX6_keep_20 : decode cX6_keep 20 = .ok (.iastore, 1) := by decide +kernel
theorem dX6_keep_21 : decode cX6_keep 21 = .ok (.iinc 1 1, 3) := by decide +kernel
theorem dX6_keep_24 : decode cX6_keep 24 = .ok (.goto (-22), 3) := by decide +kernel
theorem dX6_keep_27 : decode cX6_keep 27 = .ok (.aload_n 0, 1) := by decide +kernel
theorem dX6_keep_28 : decode cX6_keep 28 = .ok (.iconst 1, 1) := by decide +kernel
theorem dX6_keep_29 : decode cX6_keep 29 = .ok (.putfield 195, 3) := by decide +kernel
theorem dX6_keep_32 : decode cX6_keep 32 = .ok (.aload_n 0, 1) := by decide +kernel
theorem dX6_keep_33 : decode cX6_keep 33 = .ok (.getfield 7, 3) := by decide +kernel
theorem dX6_keep_36 : decode cX6_keep 36 = .ok (.iconst 0, 1) := by decide +kernel
theorem dX6_keep_37 : decode cX6_keep 37 = .ok (.iaload, 1) := by decide +kernel
theorem dX6_keep_38 : decode cX6_keep 38 = .ok (.ireturn, 1) := by decide +kernel
theorem dX6_restore_0 : decode cX6_restore 0 = .ok (.aload_n 0, 1) := by decide +kernel
theorem dX6_restore_1 : decode cX6_restore 1 = .ok (.getfield 195, 3) := by decide +kernel
theorem dX6_restore_4 : decode cX6_restore 4 = .ok (.ifCond .ne 6, 3) := by decide +kernel
theorem dX6_restore_7 : decode cX6_restore 7 = .ok (.bipush (-5), 2) := by decide +kernel
theorem dX6_restore_9 : decode cX6_restore 9 = .ok (.ireturn, 1) := by decide +kernel
theorem dX6_restore_10 : decode cX6_restore 10 = .ok (.aload_n 0, 1) := by decide +kernel
theorem dX6_restore_11 : decode cX6_restore 11 = .ok (.invokevirtual 102, 3) := by decide +kernel
theorem dX6_restore_14 : decode cX6_restore 14 = .ok (.iconst 0, 1) := by decide +kernel
theorem dX6_restore_15 : decode cX6_restore 15 = .ok (.istore_n 1, 1) := by decide +kernel
theorem dX6_restore_16 : decode cX6_restore 16 = .ok (.iload_n 1, 1) := by decide +kernel
theorem dX6_restore_17 : decode cX6_restore 17 = .ok (.sipush 713, 3) := by decide +kernel
theorem dX6_restore_20 : decode cX6_restore 20 = .ok (.if_icmp .ge 21, 3) := by decide +kernel
theorem dX6_restore_23 : decode cX6_restore 23 = .ok (.aload_n 0, 1) := by decide +kernel
theorem dX6_restore_24 : decode cX6_restore 24 = .ok (.getfield 7, 3) := by decide +kernel
theorem dX6_restore_27 : decode cX6_restore 27 = .ok (.iload_n 1, 1) := by decide +kernel
theorem dX6_restore_28 : decode cX6_restore 28 = .ok (.aload_n 0, 1) := by decide +kernel
theorem dX6_restore_29 : decode cX6_restore 29 = .ok (.getfield 19, 3) := by decide +kernel
theorem dX6_restore_32 : decode cX6_restore 32 = .ok (.iload_n 1, 1) := by decide +kernel
theorem dX6_restore_33 : decode cX6_restore 33 = .ok (.iaload, 1) := by decide +kernel
theorem dX6_restore_34 : decode cX6_restore 34 = .ok (.iastore, 1) := by decide +kernel
theorem dX6_restore_35 : decode cX6_restore 35 = .ok (.iinc 1 1, 3) := by decide +kernel
theorem dX6_restore_38 : decode cX6_restore 38 = .ok (.goto (-22), 3) := by decide +kernel
theorem dX6_restore_41 : decode cX6_restore 41 = .ok (.aload_n 0, 1) := by decide +kernel
theorem dX6_restore_42 : decode cX6_restore 42 = .ok (.getfield 7, 3) := by decide +kernel
theorem dX6_restore_45 : decode cX6_restore 45 = .ok (.iconst 0, 1) := by decide +kernel
theorem dX6_restore_46 : decode cX6_restore 46 = .ok (.iaload, 1) := by decide +kernel
theorem dX6_restore_47 : decode cX6_restore 47 = .ok (.ireturn, 1) := by decide +kernel
theorem dX6_billOf_0 : decode cX6_billOf 0 = .ok (.aload_n 0, 1) := by decide +kernel
theorem dX6_billOf_1 : decode cX6_billOf 1 = .ok (.iload_n 1, 1) := by decide +kernel
theorem dX6_billOf_2 : decode cX6_billOf 2 = .ok (.invokevirtual 131, 3) := by decide +kernel
theorem dX6_billOf_5 : decode cX6_billOf 5 = .ok (.ifCond .ne 5, 3) := by decide +kernel
theorem dX6_billOf_8 : decode cX6_billOf 8 = .ok (.iconst (-1), 1) := by decide +kernel
theorem dX6_billOf_9 : decode cX6_billOf 9 = .ok (.ireturn, 1) := by decide +kernel
theorem dX6_billOf_10 : decode cX6_billOf 10 = .ok (.iload_n 2, 1) := by decide +kernel
theorem dX6_billOf_11 : decode cX6_billOf 11 = .ok (.tableswitch 180 0 13 #[69, 80, 91, 97, 103, 114, 120, 120, 120, 120, 136, 142, 154, 166], 69) := by decide +kernel
theorem dX6_billOf_80 : decode cX6_billOf 80 = .ok (.aload_n 0, 1) := by decide +kernel
theorem dX6_billOf_81 : decode cX6_billOf 81 = .ok (.getfield 7, 3) := by decide +kernel
theorem dX6_billOf_84 : decode cX6_billOf 84 = .ok (.iload_n 1, 1) := by decide +kernel
theorem dX6_billOf_85 : decode cX6_billOf 85 = .ok (.iconst 0, 1) := by decide +kernel
theorem dX6_billOf_86 : decode cX6_billOf 86 = .ok (.invokestatic 51, 3) := by decide +kernel
theorem dX6_billOf_89 : decode cX6_billOf 89 = .ok (.iaload, 1) := by decide +kernel
theorem dX6_billOf_90 : decode cX6_billOf 90 = .ok (.ireturn, 1) := by decide +kernel
theorem dX6_billOf_91 : decode cX6_billOf 91 = .ok (.aload_n 0, 1) := by decide +kernel
theorem dX6_billOf_92 : decode cX6_billOf 92 = .ok (.getfield 7, 3) := by decide +kernel
theorem dX6_billOf_95 : decode cX6_billOf 95 = .ok (.iload_n 1, 1) := by decide +kernel
theorem dX6_billOf_96 : decode cX6_billOf 96 = .ok (.iconst 1, 1) := by decide +kernel
theorem dX6_billOf_97 : decode cX6_billOf 97 = .ok (.invokestatic 51, 3) := by decide +kernel
theorem dX6_billOf_100 : decode cX6_billOf 100 = .ok (.iaload, 1) := by decide +kernel
theorem dX6_billOf_101 : decode cX6_billOf 101 = .ok (.ireturn, 1) := by decide +kernel
theorem dX6_billOf_102 : decode cX6_billOf 102 = .ok (.aload_n 0, 1) := by decide +kernel
theorem dX6_billOf_103 : decode cX6_billOf 103 = .ok (.iload_n 1, 1) := by decide +kernel
theorem dX6_billOf_104 : decode cX6_billOf 104 = .ok (.invokevirtual 55, 3) := by decide +kernel
theorem dX6_billOf_107 : decode cX6_billOf 107 = .ok (.ireturn, 1) := by decide +kernel
theorem dX6_billOf_108 : decode cX6_billOf 108 = .ok (.aload_n 0, 1) := by decide +kernel
theorem dX6_billOf_109 : decode cX6_billOf 109 = .ok (.iload_n 1, 1) := by decide +kernel
theorem dX6_billOf_110 : decode cX6_billOf 110 = .ok (.invokevirtual 59, 3) := by decide +kernel
theorem dX6_billOf_113 : decode cX6_billOf 113 = .ok (.ireturn, 1) := by decide +kernel
theorem dX6_billOf_114 : decode cX6_billOf 114 = .ok (.aload_n 0, 1) := by decide +kernel
theorem dX6_billOf_115 : decode cX6_billOf 115 = .ok (.getfield 7, 3) := by decide +kernel
theorem dX6_billOf_118 : decode cX6_billOf 118 = .ok (.iload_n 1, 1) := by decide +kernel
theorem dX6_billOf_119 : decode cX6_billOf 119 = .ok (.iconst 3, 1) := by decide +kernel
theorem dX6_billOf_120 : decode cX6_billOf 120 = .ok (.invokestatic 51, 3) := by decide +kernel
theorem dX6_billOf_123 : decode cX6_billOf 123 = .ok (.iaload, 1) := by decide +kernel
theorem dX6_billOf_124 : decode cX6_billOf 124 = .ok (.ireturn, 1) := by decide +kernel
theorem dX6_billOf_125 : decode cX6_billOf 125 = .ok (.aload_n 0, 1) := by decide +kernel
theorem dX6_billOf_126 : decode cX6_billOf 126 = .ok (.iload_n 1, 1) := by decide +kernel
theorem dX6_billOf_127 : decode cX6_billOf 127 = .ok (.invokevirtual 82, 3) := by decide +kernel
theorem dX6_billOf_130 : decode cX6_billOf 130 = .ok (.ireturn, 1) := by decide +kernel
theorem dX6_billOf_131 : decode cX6_billOf 131 = .ok (.aload_n 0, 1) := by decide +kernel
theorem dX6_billOf_132 : decode cX6_billOf 132 = .ok (.getfield 7, 3) := by decide +kernel
theorem dX6_billOf_135 : decode cX6_billOf 135 = .ok (.iload_n 1, 1) := by decide +kernel
theorem dX6_billOf_136 : decode cX6_billOf 136 = .ok (.iconst 5, 1) := by decide +kernel
theorem dX6_billOf_137 : decode cX6_billOf 137 = .ok (.iload_n 2, 1) := by decide +kernel
theorem dX6_billOf_138 : decode cX6_billOf 138 = .ok (.iadd, 1) := by decide +kernel
theorem dX6_billOf_139 : decode cX6_billOf 139 = .ok (.bipush 6, 2) := by decide +kernel
theorem dX6_billOf_141 : decode cX6_billOf 141 = .ok (.isub, 1) := by decide +kernel
theorem dX6_billOf_142 : decode cX6_billOf 142 = .ok (.invokestatic 51, 3) := by decide +kernel
theorem dX6_billOf_145 : decode cX6_billOf 145 = .ok (.iaload, 1) := by decide +kernel
theorem dX6_billOf_146 : decode cX6_billOf 146 = .ok (.ireturn, 1) := by decide +kernel
theorem dX6_billOf_147 : decode cX6_billOf 147 = .ok (.aload_n 0, 1) := by decide +kernel
theorem dX6_billOf_148 : decode cX6_billOf 148 = .ok (.iload_n 1, 1) := by decide +kernel
theorem dX6_billOf_149 : decode cX6_billOf 149 = .ok (.invokevirtual 69, 3) := by decide +kernel
theorem dX6_billOf_152 : decode cX6_billOf 152 = .ok (.ireturn, 1) := by decide +kernel
theorem dX6_billOf_153 : decode cX6_billOf 153 = .ok (.aload_n 0, 1) := by decide +kernel
theorem dX6_billOf_154 : decode cX6_billOf 154 = .ok (.getfield 7, 3) := by decide +kernel
theorem dX6_billOf_157 : decode cX6_billOf 157 = .ok (.iload_n 1, 1) := by decide +kernel
theorem dX6_billOf_158 : decode cX6_billOf 158 = .ok (.bipush 9, 2) := by decide +kernel
theorem dX6_billOf_160 : decode cX6_billOf 160 = .ok (.invokestatic 51, 3) := by decide +kernel
theorem dX6_billOf_163 : decode cX6_billOf 163 = .ok (.iaload, 1) := by decide +kernel
theorem dX6_billOf_164 : decode cX6_billOf 164 = .ok (.ireturn, 1) := by decide +kernel
theorem dX6_billOf_165 : decode cX6_billOf 165 = .ok (.aload_n 0, 1) := by decide +kernel
theorem dX6_billOf_166 : decode cX6_billOf 166 = .ok (.getfield 7, 3) := by decide +kernel
theorem dX6_billOf_169 : decode cX6_billOf 169 = .ok (.iload_n 1, 1) := by decide +kernel
theorem dX6_billOf_170 : decode cX6_billOf 170 = .ok (.bipush 11, 2) := by decide +kernel
theorem dX6_billOf_172 : decode cX6_billOf 172 = .ok (.invokestatic 51, 3) := by decide +kernel
theorem dX6_billOf_175 : decode cX6_billOf 175 = .ok (.iaload, 1) := by decide +kernel
theorem dX6_billOf_176 : decode cX6_billOf 176 = .ok (.ireturn, 1) := by decide +kernel
theorem dX6_billOf_177 : decode cX6_billOf 177 = .ok (.aload_n 0, 1) := by decide +kernel
theorem dX6_billOf_178 : decode cX6_billOf 178 = .ok (.iload_n 1, 1) := by decide +kernel
theorem dX6_billOf_179 : decode cX6_billOf 179 = .ok (.invokevirtual 85, 3) := by decide +kernel
theorem dX6_billOf_182 : decode cX6_billOf 182 = .ok (.ifCond .eq 7, 3) := by decide +kernel
theorem dX6_billOf_185 : decode cX6_billOf 185 = .ok (.iconst 1, 1) := by decide +kernel
theorem dX6_billOf_186 : decode cX6_billOf 186 = .ok (.goto 4, 3) := by decide +kernel
theorem dX6_billOf_189 : decode cX6_billOf 189 = .ok (.iconst 0, 1) := by decide +kernel
theorem dX6_billOf_190 : decode cX6_billOf 190 = .ok (.ireturn, 1) := by decide +kernel
theorem dX6_billOf_191 : decode cX6_billOf 191 = .ok (.bipush (-2), 2) := by decide +kernel
theorem dX6_billOf_193 : decode cX6_billOf 193 = .ok (.ireturn, 1) := by decide +kernel
theorem dX6_billsOf_0 : decode cX6_billsOf 0 = .ok (.iconst 0, 1) := by decide +kernel
theorem dX6_billsOf_1 : decode cX6_billsOf 1 = .ok (.istore_n 3, 1) := by decide +kernel
theorem dX6_billsOf_2 : decode cX6_billsOf 2 = .ok (.iconst 0, 1) := by decide +kernel
theorem dX6_billsOf_3 : decode cX6_billsOf 3 = .ok (.istore 4, 2) := by decide +kernel
theorem dX6_billsOf_5 : decode cX6_billsOf 5 = .ok (.iload 4, 2) := by decide +kernel
theorem dX6_billsOf_7 : decode cX6_billsOf 7 = .ok (.aload_n 0, 1) := by decide +kernel
theorem dX6_billsOf_8 : decode cX6_billsOf 8 = .ok (.getfield 7, 3) := by decide +kernel
theorem dX6_billsOf_11 : decode cX6_billsOf 11 = .ok (.bipush 6, 2) := by decide +kernel
theorem dX6_billsOf_13 : decode cX6_billsOf 13 = .ok (.iaload, 1) := by decide +kernel
theorem dX6_billsOf_14 : decode cX6_billsOf 14 = .ok (.if_icmp .ge 54, 3) := by decide +kernel
theorem dX6_billsOf_17 : decode cX6_billsOf 17 = .ok (.iload_n 3, 1) := by decide +kernel
theorem dX6_billsOf_18 : decode cX6_billsOf 18 = .ok (.iload_n 1, 1) := by decide +kernel
theorem dX6_billsOf_19 : decode cX6_billsOf 19 = .ok (.bipush (-5), 2) := by decide +kernel
theorem dX6_billsOf_21 : decode cX6_billsOf 21 = .ok (.if_icmp .eq 18, 3) := by decide +kernel
theorem dX6_billsOf_24 : decode cX6_billsOf 24 = .ok (.aload_n 0, 1) := by decide +kernel
theorem dX6_billsOf_25 : decode cX6_billsOf 25 = .ok (.getfield 7, 3) := by decide +kernel
theorem dX6_billsOf_28 : decode cX6_billsOf 28 = .ok (.iload 4, 2) := by decide +kernel
theorem dX6_billsOf_30 : decode cX6_billsOf 30 = .ok (.iconst 0, 1) := by decide +kernel
theorem dX6_billsOf_31 : decode cX6_billsOf 31 = .ok (.invokestatic 51, 3) := by decide +kernel
theorem dX6_billsOf_34 : decode cX6_billsOf 34 = .ok (.iaload, 1) := by decide +kernel
theorem dX6_billsOf_35 : decode cX6_billsOf 35 = .ok (.iload_n 1, 1) := by decide +kernel
theorem dX6_billsOf_36 : decode cX6_billsOf 36 = .ok (.if_icmp .ne 23, 3) := by decide +kernel
theorem dX6_billsOf_39 : decode cX6_billsOf 39 = .ok (.iload_n 2, 1) := by decide +kernel
theorem dX6_billsOf_40 : decode cX6_billsOf 40 = .ok (.bipush (-5), 2) := by decide +kernel
theorem dX6_billsOf_42 : decode cX6_billsOf 42 = .ok (.if_icmp .eq 13, 3) := by decide +kernel
theorem dX6_billsOf_45 : decode cX6_billsOf 45 = .ok (.aload_n 0, 1) := by decide +kernel
theorem dX6_billsOf_46 : decode cX6_billsOf 46 = .ok (.iload 4, 2) := by decide +kernel
theorem dX6_billsOf_48 : decode cX6_billsOf 48 = .ok (.iload_n 2, 1) := by decide +kernel
theorem dX6_billsOf_49 : decode cX6_billsOf 49 = .ok (.invokevirtual 62, 3) := by decide +kernel
theorem dX6_billsOf_52 : decode cX6_billsOf 52 = .ok (.ifCond .eq 7, 3) := by decide +kernel
theorem dX6_billsOf_55 : decode cX6_billsOf 55 = .ok (.iconst 1, 1) := by decide +kernel
theorem dX6_billsOf_56 : decode cX6_billsOf 56 = .ok (.goto 4, 3) := by decide +kernel
theorem dX6_billsOf_59 : decode cX6_billsOf 59 = .ok (.iconst 0, 1) := by decide +kernel
theorem dX6_billsOf_60 : decode cX6_billsOf 60 = .ok (.iadd, 1) := by decide +kernel
theorem dX6_billsOf_61 : decode cX6_billsOf 61 = .ok (.istore_n 3, 1) := by decide +kernel
theorem dX6_billsOf_62 : decode cX6_billsOf 62 = .ok (.iinc 4 1, 3) := by decide +kernel
theorem dX6_billsOf_65 : decode cX6_billsOf 65 = .ok (.goto (-60), 3) := by decide +kernel
theorem dX6_billsOf_68 : decode cX6_billsOf 68 = .ok (.iload_n 3, 1) := by decide +kernel
theorem dX6_billsOf_69 : decode cX6_billsOf 69 = .ok (.ireturn, 1) := by decide +kernel
theorem dX6_oldestOpen_0 : decode cX6_oldestOpen 0 = .ok (.bipush (-5), 2) := by decide +kernel
theorem dX6_oldestOpen_2 : decode cX6_oldestOpen 2 = .ok (.istore_n 2, 1) := by decide +kernel
theorem dX6_oldestOpen_3 : decode cX6_oldestOpen 3 = .ok (.aload_n 0, 1) := by decide +kernel
theorem dX6_oldestOpen_4 : decode cX6_oldestOpen 4 = .ok (.getfield 7, 3) := by decide +kernel
theorem dX6_oldestOpen_7 : decode cX6_oldestOpen 7 = .ok (.bipush 6, 2) := by decide +kernel
theorem dX6_oldestOpen_9 : decode cX6_oldestOpen 9 = .ok (.iaload, 1) := by decide +kernel
theorem dX6_oldestOpen_10 : decode cX6_oldestOpen 10 = .ok (.iconst 1, 1) := by decide +kernel
theorem dX6_oldestOpen_11 : decode cX6_oldestOpen 11 = .ok (.isub, 1) := by decide +kernel
theorem dX6_oldestOpen_12 : decode cX6_oldestOpen 12 = .ok (.istore_n 3, 1) := by decide +kernel
theorem dX6_oldestOpen_13 : decode cX6_oldestOpen 13 = .ok (.iload_n 3, 1) := by decide +kernel
theorem dX6_oldestOpen_14 : decode cX6_oldestOpen 14 = .ok (.ifCond .lt 24, 3) := by decide +kernel
theorem dX6_oldestOpen_17 : decode cX6_oldestOpen 17 = .ok (.aload_n 0, 1) := by decide +kernel
theorem dX6_oldestOpen_18 : decode cX6_oldestOpen 18 = .ok (.iload_n 3, 1) := by decide +kernel
theorem dX6_oldestOpen_19 : decode cX6_oldestOpen 19 = .ok (.iload_n 1, 1) := by decide +kernel
theorem dX6_oldestOpen_20 : decode cX6_oldestOpen 20 = .ok (.invokevirtual 75, 3) := by decide +kernel
theorem dX6_oldestOpen_23 : decode cX6_oldestOpen 23 = .ok (.ifCond .eq 7, 3) := by decide +kernel
theorem dX6_oldestOpen_26 : decode cX6_oldestOpen 26 = .ok (.iload_n 3, 1) := by decide +kernel
theorem dX6_oldestOpen_27 : decode cX6_oldestOpen 27 = .ok (.goto 4, 3) := by decide +kernel
theorem dX6_oldestOpen_30 : decode cX6_oldestOpen 30 = .ok (.iload_n 2, 1) := by decide +kernel
theorem dX6_oldestOpen_31 : decode cX6_oldestOpen 31 = .ok (.istore_n 2, 1) := by decide +kernel
theorem dX6_oldestOpen_32 : decode cX6_oldestOpen 32 = .ok (.iinc 3 (-1), 3) := by decide +kernel
theorem dX6_oldestOpen_35 : decode cX6_oldestOpen 35 = .ok (.goto (-22), 3) := by decide +kernel
theorem dX6_oldestOpen_38 : decode cX6_oldestOpen 38 = .ok (.iload_n 2, 1) := by decide +kernel
theorem dX6_oldestOpen_39 : decode cX6_oldestOpen 39 = .ok (.ireturn, 1) := by decide +kernel
theorem dX6_customer_0 : decode cX6_customer 0 = .ok (.iload_n 1, 1) := by decide +kernel
theorem dX6_customer_1 : decode cX6_customer 1 = .ok (.invokestatic 96, 3) := by decide +kernel
theorem dX6_customer_4 : decode cX6_customer 4 = .ok (.ifCond .ne 5, 3) := by decide +kernel
theorem dX6_customer_7 : decode cX6_customer 7 = .ok (.iconst (-1), 1) := by decide +kernel
theorem dX6_customer_8 : decode cX6_customer 8 = .ok (.ireturn, 1) := by decide +kernel
theorem dX6_customer_9 : decode cX6_customer 9 = .ok (.iload_n 2, 1) := by decide +kernel
theorem dX6_customer_10 : decode cX6_customer 10 = .ok (.tableswitch 108 0 6 #[42, 50, 57, 64, 74, 95, 102], 42) := by decide +kernel
theorem dX6_customer_52 : decode cX6_customer 52 = .ok (.aload_n 0, 1) := by decide +kernel
theorem dX6_customer_53 : decode cX6_customer 53 = .ok (.iload_n 1, 1) := by decide +kernel
theorem dX6_customer_54 : decode cX6_customer 54 = .ok (.bipush (-5), 2) := by decide +kernel
theorem dX6_customer_56 : decode cX6_customer 56 = .ok (.invokevirtual 198, 3) := by decide +kernel
theorem dX6_customer_59 : decode cX6_customer 59 = .ok (.ireturn, 1) := by decide +kernel
theorem dX6_customer_60 : decode cX6_customer 60 = .ok (.aload_n 0, 1) := by decide +kernel
theorem dX6_customer_61 : decode cX6_customer 61 = .ok (.iload_n 1, 1) := by decide +kernel
theorem dX6_customer_62 : decode cX6_customer 62 = .ok (.iconst 0, 1) := by decide +kernel
theorem dX6_customer_63 : decode cX6_customer 63 = .ok (.invokevirtual 198, 3) := by decide +kernel
theorem dX6_customer_66 : decode cX6_customer 66 = .ok (.ireturn, 1) := by decide +kernel
theorem dX6_customer_67 : decode cX6_customer 67 = .ok (.aload_n 0, 1) := by decide +kernel
theorem dX6_customer_68 : decode cX6_customer 68 = .ok (.iload_n 1, 1) := by decide +kernel
theorem dX6_customer_69 : decode cX6_customer 69 = .ok (.iconst 0, 1) := by decide +kernel
theorem dX6_customer_70 : decode cX6_customer 70 = .ok (.invokevirtual 201, 3) := by decide +kernel
theorem dX6_customer_73 : decode cX6_customer 73 = .ok (.ireturn, 1) := by decide +kernel
theorem dX6_customer_74 : decode cX6_customer 74 = .ok (.aload_n 0, 1) := by decide +kernel
theorem dX6_customer_75 : decode cX6_customer 75 = .ok (.getfield 7, 3) := by decide +kernel
theorem dX6_customer_78 : decode cX6_customer 78 = .ok (.bipush 9, 2) := by decide +kernel
theorem dX6_customer_80 : decode cX6_customer 80 = .ok (.iload_n 1, 1) := by decide +kernel
theorem dX6_customer_81 : decode cX6_customer 81 = .ok (.iadd, 1) := by decide +kernel
theorem dX6_customer_82 : decode cX6_customer 82 = .ok (.iaload, 1) := by decide +kernel
theorem dX6_customer_83 : decode cX6_customer 83 = .ok (.ireturn, 1) := by decide +kernel
theorem dX6_customer_84 : decode cX6_customer 84 = .ok (.aload_n 0, 1) := by decide +kernel
theorem dX6_customer_85 : decode cX6_customer 85 = .ok (.getfield 7, 3) := by decide +kernel
theorem dX6_customer_88 : decode cX6_customer 88 = .ok (.bipush 17, 2) := by decide +kernel
theorem dX6_customer_90 : decode cX6_customer 90 = .ok (.iload_n 1, 1) := by decide +kernel
theorem dX6_customer_91 : decode cX6_customer 91 = .ok (.iadd, 1) := by decide +kernel
theorem dX6_customer_92 : decode cX6_customer 92 = .ok (.iaload, 1) := by decide +kernel
theorem dX6_customer_93 : decode cX6_customer 93 = .ok (.aload_n 0, 1) := by decide +kernel
theorem dX6_customer_94 : decode cX6_customer 94 = .ok (.getfield 7, 3) := by decide +kernel
theorem dX6_customer_97 : decode cX6_customer 97 = .ok (.sipush 225, 3) := by decide +kernel
theorem dX6_customer_100 : decode cX6_customer 100 = .ok (.iload_n 1, 1) := by decide +kernel
theorem dX6_customer_101 : decode cX6_customer 101 = .ok (.iadd, 1) := by decide +kernel
theorem dX6_customer_102 : decode cX6_customer 102 = .ok (.iaload, 1) := by decide +kernel
theorem dX6_customer_103 : decode cX6_customer 103 = .ok (.isub, 1) := by decide +kernel
theorem dX6_customer_104 : decode cX6_customer 104 = .ok (.ireturn, 1) := by decide +kernel
theorem dX6_customer_105 : decode cX6_customer 105 = .ok (.aload_n 0, 1) := by decide +kernel
theorem dX6_customer_106 : decode cX6_customer 106 = .ok (.iload_n 1, 1) := by decide +kernel
theorem dX6_customer_107 : decode cX6_customer 107 = .ok (.iconst 2, 1) := by decide +kernel
theorem dX6_customer_108 : decode cX6_customer 108 = .ok (.invokevirtual 201, 3) := by decide +kernel
theorem dX6_customer_111 : decode cX6_customer 111 = .ok (.ireturn, 1) := by decide +kernel
theorem dX6_customer_112 : decode cX6_customer 112 = .ok (.aload_n 0, 1) := by decide +kernel
theorem dX6_customer_113 : decode cX6_customer 113 = .ok (.iload_n 1, 1) := by decide +kernel
theorem dX6_customer_114 : decode cX6_customer 114 = .ok (.invokevirtual 204, 3) := by decide +kernel
theorem dX6_customer_117 : decode cX6_customer 117 = .ok (.ireturn, 1) := by decide +kernel
theorem dX6_customer_118 : decode cX6_customer 118 = .ok (.bipush (-2), 2) := by decide +kernel
theorem dX6_customer_120 : decode cX6_customer 120 = .ok (.ireturn, 1) := by decide +kernel
theorem dX6_tax_0 : decode cX6_tax 0 = .ok (.iload_n 1, 1) := by decide +kernel
theorem dX6_tax_1 : decode cX6_tax 1 = .ok (.invokestatic 147, 3) := by decide +kernel
theorem dX6_tax_4 : decode cX6_tax 4 = .ok (.ifCond .ne 5, 3) := by decide +kernel
theorem dX6_tax_7 : decode cX6_tax 7 = .ok (.iconst (-1), 1) := by decide +kernel
theorem dX6_tax_8 : decode cX6_tax 8 = .ok (.ireturn, 1) := by decide +kernel
theorem dX6_tax_9 : decode cX6_tax 9 = .ok (.iload_n 2, 1) := by decide +kernel
theorem dX6_tax_10 : decode cX6_tax 10 = .ok (.iconst 0, 1) := by decide +kernel
theorem dX6_tax_11 : decode cX6_tax 11 = .ok (.iconst 2, 1) := by decide +kernel
theorem dX6_tax_12 : decode cX6_tax 12 = .ok (.invokestatic 38, 3) := by decide +kernel
theorem dX6_tax_15 : decode cX6_tax 15 = .ok (.ifCond .ne 6, 3) := by decide +kernel
theorem dX6_tax_18 : decode cX6_tax 18 = .ok (.bipush (-2), 2) := by decide +kernel
theorem dX6_tax_20 : decode cX6_tax 20 = .ok (.ireturn, 1) := by decide +kernel
theorem dX6_tax_21 : decode cX6_tax 21 = .ok (.iload_n 2, 1) := by decide +kernel
theorem dX6_tax_22 : decode cX6_tax 22 = .ok (.iconst 2, 1) := by decide +kernel
theorem dX6_tax_23 : decode cX6_tax 23 = .ok (.if_icmp .ge 12, 3) := by decide +kernel
theorem dX6_tax_26 : decode cX6_tax 26 = .ok (.aload_n 0, 1) := by decide +kernel
theorem dX6_tax_27 : decode cX6_tax 27 = .ok (.iload_n 1, 1) := by decide +kernel
theorem dX6_tax_28 : decode cX6_tax 28 = .ok (.iload_n 2, 1) := by decide +kernel
theorem dX6_tax_29 : decode cX6_tax 29 = .ok (.invokevirtual 150, 3) := by decide +kernel
theorem dX6_tax_32 : decode cX6_tax 32 = .ok (.goto 28, 3) := by decide +kernel
theorem dX6_tax_35 : decode cX6_tax 35 = .ok (.aload_n 0, 1) := by decide +kernel
theorem dX6_tax_36 : decode cX6_tax 36 = .ok (.getfield 7, 3) := by decide +kernel
theorem dX6_tax_39 : decode cX6_tax 39 = .ok (.bipush 8, 2) := by decide +kernel
theorem dX6_tax_41 : decode cX6_tax 41 = .ok (.iaload, 1) := by decide +kernel
theorem dX6_tax_42 : decode cX6_tax 42 = .ok (.iload_n 1, 1) := by decide +kernel
theorem dX6_tax_43 : decode cX6_tax 43 = .ok (.if_icmp .le 15, 3) := by decide +kernel
theorem dX6_tax_46 : decode cX6_tax 46 = .ok (.aload_n 0, 1) := by decide +kernel
theorem dX6_tax_47 : decode cX6_tax 47 = .ok (.getfield 7, 3) := by decide +kernel
theorem dX6_tax_50 : decode cX6_tax 50 = .ok (.bipush 125, 2) := by decide +kernel
theorem dX6_tax_52 : decode cX6_tax 52 = .ok (.iload_n 1, 1) := by decide +kernel
theorem dX6_tax_53 : decode cX6_tax 53 = .ok (.iadd, 1) := by decide +kernel
theorem dX6_tax_54 : decode cX6_tax 54 = .ok (.iaload, 1) := by decide +kernel
theorem dX6_tax_55 : decode cX6_tax 55 = .ok (.goto 5, 3) := by decide +kernel
theorem dX6_tax_58 : decode cX6_tax 58 = .ok (.bipush (-5), 2) := by decide +kernel
theorem dX6_tax_60 : decode cX6_tax 60 = .ok (.ireturn, 1) := by decide +kernel
theorem dX6_reason_0 : decode cX6_reason 0 = .ok (.aload_n 0, 1) := by decide +kernel
theorem dX6_reason_1 : decode cX6_reason 1 = .ok (.iload_n 1, 1) := by decide +kernel
theorem dX6_reason_2 : decode cX6_reason 2 = .ok (.invokevirtual 131, 3) := by decide +kernel
theorem dX6_reason_5 : decode cX6_reason 5 = .ok (.ifCond .eq 11, 3) := by decide +kernel
theorem dX6_reason_8 : decode cX6_reason 8 = .ok (.aload_n 0, 1) := by decide +kernel
theorem dX6_reason_9 : decode cX6_reason 9 = .ok (.iload_n 1, 1) := by decide +kernel
theorem dX6_reason_10 : decode cX6_reason 10 = .ok (.invokevirtual 92, 3) := by decide +kernel
theorem dX6_reason_13 : decode cX6_reason 13 = .ok (.goto 4, 3) := by decide +kernel
theorem dX6_reason_16 : decode cX6_reason 16 = .ok (.iconst (-1), 1) := by decide +kernel
theorem dX6_reason_17 : decode cX6_reason 17 = .ok (.ireturn, 1) := by decide +kernel
theorem dX6_sum_0 : decode cX6_sum 0 = .ok (.iconst 0, 1) := by decide +kernel
theorem dX6_sum_1 : decode cX6_sum 1 = .ok (.istore_n 2, 1) := by decide +kernel
theorem dX6_sum_2 : decode cX6_sum 2 = .ok (.iconst 0, 1) := by decide +kernel
theorem dX6_sum_3 : decode cX6_sum 3 = .ok (.istore_n 3, 1) := by decide +kernel
theorem dX6_sum_4 : decode cX6_sum 4 = .ok (.iload_n 3, 1) := by decide +kernel
theorem dX6_sum_5 : decode cX6_sum 5 = .ok (.aload_n 0, 1) := by decide +kernel
theorem dX6_sum_6 : decode cX6_sum 6 = .ok (.getfield 7, 3) := by decide +kernel
theorem dX6_sum_9 : decode cX6_sum 9 = .ok (.bipush 6, 2) := by decide +kernel
theorem dX6_sum_11 : decode cX6_sum 11 = .ok (.iaload, 1) := by decide +kernel
theorem dX6_sum_12 : decode cX6_sum 12 = .ok (.if_icmp .ge 22, 3) := by decide +kernel
theorem dX6_sum_15 : decode cX6_sum 15 = .ok (.iload_n 2, 1) := by decide +kernel
theorem dX6_sum_16 : decode cX6_sum 16 = .ok (.aload_n 0, 1) := by decide +kernel
theorem dX6_sum_17 : decode cX6_sum 17 = .ok (.getfield 7, 3) := by decide +kernel
theorem dX6_sum_20 : decode cX6_sum 20 = .ok (.iload_n 3, 1) := by decide +kernel
theorem dX6_sum_21 : decode cX6_sum 21 = .ok (.iload_n 1, 1) := by decide +kernel
theorem dX6_sum_22 : decode cX6_sum 22 = .ok (.invokestatic 51, 3) := by decide +kernel
theorem dX6_sum_25 : decode cX6_sum 25 = .ok (.iaload, 1) := by decide +kernel
theorem dX6_sum_26 : decode cX6_sum 26 = .ok (.iadd, 1) := by decide +kernel
theorem dX6_sum_27 : decode cX6_sum 27 = .ok (.istore_n 2, 1) := by decide +kernel
theorem dX6_sum_28 : decode cX6_sum 28 = .ok (.iinc 3 1, 3) := by decide +kernel
theorem dX6_sum_31 : decode cX6_sum 31 = .ok (.goto (-27), 3) := by decide +kernel
theorem dX6_sum_34 : decode cX6_sum 34 = .ok (.iload_n 2, 1) := by decide +kernel
theorem dX6_sum_35 : decode cX6_sum 35 = .ok (.ireturn, 1) := by decide +kernel
theorem dX6_ifPaid_0 : decode cX6_ifPaid 0 = .ok (.iload_n 1, 1) := by decide +kernel
theorem dX6_ifPaid_1 : decode cX6_ifPaid 1 = .ok (.invokestatic 96, 3) := by decide +kernel
theorem dX6_ifPaid_4 : decode cX6_ifPaid 4 = .ok (.ifCond .ne 5, 3) := by decide +kernel
theorem dX6_ifPaid_7 : decode cX6_ifPaid 7 = .ok (.iconst (-1), 1) := by decide +kernel
theorem dX6_ifPaid_8 : decode cX6_ifPaid 8 = .ok (.ireturn, 1) := by decide +kernel
theorem dX6_ifPaid_9 : decode cX6_ifPaid 9 = .ok (.iload_n 2, 1) := by decide +kernel
theorem dX6_ifPaid_10 : decode cX6_ifPaid 10 = .ok (.invokestatic 122, 3) := by decide +kernel
theorem dX6_ifPaid_13 : decode cX6_ifPaid 13 = .ok (.ifCond .eq 12, 3) := by decide +kernel
theorem dX6_ifPaid_16 : decode cX6_ifPaid 16 = .ok (.iload_n 3, 1) := by decide +kernel
theorem dX6_ifPaid_17 : decode cX6_ifPaid 17 = .ok (.iconst 0, 1) := by decide +kernel
theorem dX6_ifPaid_18 : decode cX6_ifPaid 18 = .ok (.iconst 3, 1) := by decide +kernel
theorem dX6_ifPaid_19 : decode cX6_ifPaid 19 = .ok (.invokestatic 38, 3) := by decide +kernel
theorem dX6_ifPaid_22 : decode cX6_ifPaid 22 = .ok (.ifCond .ne 6, 3) := by decide +kernel
theorem dX6_ifPaid_25 : decode cX6_ifPaid 25 = .ok (.bipush (-2), 2) := by decide +kernel
theorem dX6_ifPaid_27 : decode cX6_ifPaid 27 = .ok (.ireturn, 1) := by decide +kernel
theorem dX6_ifPaid_28 : decode cX6_ifPaid 28 = .ok (.aload_n 0, 1) := by decide +kernel
theorem dX6_ifPaid_29 : decode cX6_ifPaid 29 = .ok (.iload_n 1, 1) := by decide +kernel
theorem dX6_ifPaid_30 : decode cX6_ifPaid 30 = .ok (.iload_n 2, 1) := by decide +kernel
theorem dX6_ifPaid_31 : decode cX6_ifPaid 31 = .ok (.invokevirtual 125, 3) := by decide +kernel
theorem dX6_ifPaid_34 : decode cX6_ifPaid 34 = .ok (.ifCond .eq 6, 3) := by decide +kernel
theorem dX6_ifPaid_37 : decode cX6_ifPaid 37 = .ok (.bipush (-3), 2) := by decide +kernel
theorem dX6_ifPaid_39 : decode cX6_ifPaid 39 = .ok (.ireturn, 1) := by decide +kernel
theorem dX6_ifPaid_40 : decode cX6_ifPaid 40 = .ok (.aload_n 0, 1) := by decide +kernel
theorem dX6_ifPaid_41 : decode cX6_ifPaid 41 = .ok (.invokevirtual 109, 3) := by decide +kernel
theorem dX6_ifPaid_44 : decode cX6_ifPaid 44 = .ok (.aload_n 0, 1) := by decide +kernel
theorem dX6_ifPaid_45 : decode cX6_ifPaid 45 = .ok (.bipush 7, 2) := by decide +kernel
theorem dX6_ifPaid_47 : decode cX6_ifPaid 47 = .ok (.invokevirtual 207, 3) := by decide +kernel
theorem dX6_ifPaid_50 : decode cX6_ifPaid 50 = .ok (.istore 4, 2) := by decide +kernel
theorem dX6_ifPaid_52 : decode cX6_ifPaid 52 = .ok (.aload_n 0, 1) := by decide +kernel
theorem dX6_ifPaid_53 : decode cX6_ifPaid 53 = .ok (.iload_n 1, 1) := by decide +kernel
theorem dX6_ifPaid_54 : decode cX6_ifPaid 54 = .ok (.iload_n 2, 1) := by decide +kernel
theorem dX6_ifPaid_55 : decode cX6_ifPaid 55 = .ok (.invokevirtual 112, 3) := by decide +kernel
theorem dX6_ifPaid_58 : decode cX6_ifPaid 58 = .ok (.istore 5, 2) := by decide +kernel
theorem dX6_ifPaid_60 : decode cX6_ifPaid 60 = .ok (.iload_n 3, 1) := by decide +kernel
theorem dX6_ifPaid_61 : decode cX6_ifPaid 61 = .ok (.ifCond .ne 8, 3) := by decide +kernel
theorem dX6_ifPaid_64 : decode cX6_ifPaid 64 = .ok (.iload 5, 2) := by decide +kernel
theorem dX6_ifPaid_66 : decode cX6_ifPaid 66 = .ok (.goto 43, 3) := by decide +kernel
theorem dX6_ifPaid_69 : decode cX6_ifPaid 69 = .ok (.iload_n 3, 1) := by decide +kernel
theorem dX6_ifPaid_70 : decode cX6_ifPaid 70 = .ok (.iconst 1, 1) := by decide +kernel
theorem dX6_ifPaid_71 : decode cX6_ifPaid 71 = .ok (.if_icmp .ne 15, 3) := by decide +kernel
theorem dX6_ifPaid_74 : decode cX6_ifPaid 74 = .ok (.aload_n 0, 1) := by decide +kernel
theorem dX6_ifPaid_75 : decode cX6_ifPaid 75 = .ok (.bipush 7, 2) := by decide +kernel
theorem dX6_ifPaid_77 : decode cX6_ifPaid 77 = .ok (.invokevirtual 207, 3) := by decide +kernel
theorem dX6_ifPaid_80 : decode cX6_ifPaid 80 = .ok (.iload 4, 2) := by decide +kernel
theorem dX6_ifPaid_82 : decode cX6_ifPaid 82 = .ok (.isub, 1) := by decide +kernel
theorem dX6_ifPaid_83 : decode cX6_ifPaid 83 = .ok (.goto 26, 3) := by decide +kernel
theorem dX6_ifPaid_86 : decode cX6_ifPaid 86 = .ok (.iload_n 3, 1) := by decide +kernel
theorem dX6_ifPaid_87 : decode cX6_ifPaid 87 = .ok (.iconst 2, 1) := by decide +kernel
theorem dX6_ifPaid_88 : decode cX6_ifPaid 88 = .ok (.if_icmp .ne 15, 3) := by decide +kernel
theorem dX6_ifPaid_91 : decode cX6_ifPaid 91 = .ok (.aload_n 0, 1) := by decide +kernel
theorem dX6_ifPaid_92 : decode cX6_ifPaid 92 = .ok (.getfield 7, 3) := by decide +kernel
theorem dX6_ifPaid_95 : decode cX6_ifPaid 95 = .ok (.bipush 9, 2) := by decide +kernel
theorem dX6_ifPaid_97 : decode cX6_ifPaid 97 = .ok (.iload_n 1, 1) := by decide +kernel
theorem dX6_ifPaid_98 : decode cX6_ifPaid 98 = .ok (.iadd, 1) := by decide +kernel
theorem dX6_ifPaid_99 : decode cX6_ifPaid 99 = .ok (.iaload, 1) := by decide +kernel
theorem dX6_ifPaid_100 : decode cX6_ifPaid 100 = .ok (.goto 9, 3) := by decide +kernel
theorem dX6_ifPaid_103 : decode cX6_ifPaid 103 = .ok (.aload_n 0, 1) := by decide +kernel
theorem dX6_ifPaid_104 : decode cX6_ifPaid 104 = .ok (.iload_n 1, 1) := by decide +kernel
theorem dX6_ifPaid_105 : decode cX6_ifPaid 105 = .ok (.iconst 0, 1) := by decide +kernel
theorem dX6_ifPaid_106 : decode cX6_ifPaid 106 = .ok (.invokevirtual 201, 3) := by decide +kernel
theorem dX6_ifPaid_109 : decode cX6_ifPaid 109 = .ok (.istore 6, 2) := by decide +kernel
theorem dX6_ifPaid_111 : decode cX6_ifPaid 111 = .ok (.aload_n 0, 1) := by decide +kernel
theorem dX6_ifPaid_112 : decode cX6_ifPaid 112 = .ok (.invokevirtual 119, 3) := by decide +kernel
theorem dX6_ifPaid_115 : decode cX6_ifPaid 115 = .ok (.iload 6, 2) := by decide +kernel
theorem dX6_ifPaid_117 : decode cX6_ifPaid 117 = .ok (.ireturn, 1) := by decide +kernel
theorem dX6_settles_0 : decode cX6_settles 0 = .ok (.iload_n 1, 1) := by decide +kernel
theorem dX6_settles_1 : decode cX6_settles 1 = .ok (.invokestatic 96, 3) := by decide +kernel
theorem dX6_settles_4 : decode cX6_settles 4 = .ok (.ifCond .ne 5, 3) := by decide +kernel
theorem dX6_settles_7 : decode cX6_settles 7 = .ok (.iconst (-1), 1) := by decide +kernel
theorem dX6_settles_8 : decode cX6_settles 8 = .ok (.ireturn, 1) := by decide +kernel
theorem dX6_settles_9 : decode cX6_settles 9 = .ok (.iconst 0, 1) := by decide +kernel
theorem dX6_settles_10 : decode cX6_settles 10 = .ok (.istore_n 2, 1) := by decide +kernel
theorem dX6_settles_11 : decode cX6_settles 11 = .ok (.iconst 0, 1) := by decide +kernel
theorem dX6_settles_12 : decode cX6_settles 12 = .ok (.istore_n 3, 1) := by decide +kernel
theorem dX6_settles_13 : decode cX6_settles 13 = .ok (.iload_n 3, 1) := by decide +kernel
theorem dX6_settles_14 : decode cX6_settles 14 = .ok (.aload_n 0, 1) := by decide +kernel
theorem dX6_settles_15 : decode cX6_settles 15 = .ok (.getfield 7, 3) := by decide +kernel
theorem dX6_settles_18 : decode cX6_settles 18 = .ok (.bipush 6, 2) := by decide +kernel
theorem dX6_settles_20 : decode cX6_settles 20 = .ok (.iaload, 1) := by decide +kernel
theorem dX6_settles_21 : decode cX6_settles 21 = .ok (.if_icmp .ge 36, 3) := by decide +kernel
theorem dX6_settles_24 : decode cX6_settles 24 = .ok (.iload_n 2, 1) := by decide +kernel
theorem dX6_settles_25 : decode cX6_settles 25 = .ok (.aload_n 0, 1) := by decide +kernel
theorem dX6_settles_26 : decode cX6_settles 26 = .ok (.iload_n 3, 1) := by decide +kernel
theorem dX6_settles_27 : decode cX6_settles 27 = .ok (.iload_n 1, 1) := by decide +kernel
theorem dX6_settles_28 : decode cX6_settles 28 = .ok (.invokevirtual 75, 3) := by decide +kernel
theorem dX6_settles_31 : decode cX6_settles 31 = .ok (.ifCond .eq 17, 3) := by decide +kernel
theorem dX6_settles_34 : decode cX6_settles 34 = .ok (.aload_n 0, 1) := by decide +kernel
theorem dX6_settles_35 : decode cX6_settles 35 = .ok (.iload_n 3, 1) := by decide +kernel
theorem dX6_settles_36 : decode cX6_settles 36 = .ok (.invokevirtual 69, 3) := by decide +kernel
theorem dX6_settles_39 : decode cX6_settles 39 = .ok (.aload_n 0, 1) := by decide +kernel
theorem dX6_settles_40 : decode cX6_settles 40 = .ok (.iload_n 3, 1) := by decide +kernel
theorem dX6_settles_41 : decode cX6_settles 41 = .ok (.invokevirtual 72, 3) := by decide +kernel
theorem dX6_settles_44 : decode cX6_settles 44 = .ok (.isub, 1) := by decide +kernel
theorem dX6_settles_45 : decode cX6_settles 45 = .ok (.goto 4, 3) := by decide +kernel
theorem dX6_settles_48 : decode cX6_settles 48 = .ok (.iconst 0, 1) := by decide +kernel
theorem dX6_settles_49 : decode cX6_settles 49 = .ok (.iadd, 1) := by decide +kernel
theorem dX6_settles_50 : decode cX6_settles 50 = .ok (.istore_n 2, 1) := by decide +kernel
theorem dX6_settles_51 : decode cX6_settles 51 = .ok (.iinc 3 1, 3) := by decide +kernel
theorem dX6_settles_54 : decode cX6_settles 54 = .ok (.goto (-41), 3) := by decide +kernel
theorem dX6_settles_57 : decode cX6_settles 57 = .ok (.iload_n 2, 1) := by decide +kernel
theorem dX6_settles_58 : decode cX6_settles 58 = .ok (.ireturn, 1) := by decide +kernel
theorem dX6_nextReminder_0 : decode cX6_nextReminder 0 = .ok (.aload_n 0, 1) := by decide +kernel
theorem dX6_nextReminder_1 : decode cX6_nextReminder 1 = .ok (.iload_n 1, 1) := by decide +kernel
theorem dX6_nextReminder_2 : decode cX6_nextReminder 2 = .ok (.invokevirtual 131, 3) := by decide +kernel
theorem dX6_nextReminder_5 : decode cX6_nextReminder 5 = .ok (.ifCond .ne 5, 3) := by decide +kernel
theorem dX6_nextReminder_8 : decode cX6_nextReminder 8 = .ok (.iconst (-1), 1) := by decide +kernel
theorem dX6_nextReminder_9 : decode cX6_nextReminder 9 = .ok (.ireturn, 1) := by decide +kernel
theorem dX6_nextReminder_10 : decode cX6_nextReminder 10 = .ok (.aload_n 0, 1) := by decide +kernel
theorem dX6_nextReminder_11 : decode cX6_nextReminder 11 = .ok (.iload_n 1, 1) := by decide +kernel
theorem dX6_nextReminder_12 : decode cX6_nextReminder 12 = .ok (.invokevirtual 89, 3) := by decide +kernel
theorem dX6_nextReminder_15 : decode cX6_nextReminder 15 = .ok (.aload_n 0, 1) := by decide +kernel
theorem dX6_nextReminder_16 : decode cX6_nextReminder 16 = .ok (.getfield 7, 3) := by decide +kernel
theorem dX6_nextReminder_19 : decode cX6_nextReminder 19 = .ok (.iconst 3, 1) := by decide +kernel
theorem dX6_nextReminder_20 : decode cX6_nextReminder 20 = .ok (.iaload, 1) := by decide +kernel
theorem dX6_nextReminder_21 : decode cX6_nextReminder 21 = .ok (.iadd, 1) := by decide +kernel
theorem dX6_nextReminder_22 : decode cX6_nextReminder 22 = .ok (.istore_n 2, 1) := by decide +kernel
theorem dX6_nextReminder_23 : decode cX6_nextReminder 23 = .ok (.iload_n 2, 1) := by decide +kernel
theorem dX6_nextReminder_24 : decode cX6_nextReminder 24 = .ok (.aload_n 0, 1) := by decide +kernel
theorem dX6_nextReminder_25 : decode cX6_nextReminder 25 = .ok (.getfield 7, 3) := by decide +kernel
theorem dX6_nextReminder_28 : decode cX6_nextReminder 28 = .ok (.iconst 0, 1) := by decide +kernel
theorem dX6_nextReminder_29 : decode cX6_nextReminder 29 = .ok (.iaload, 1) := by decide +kernel
theorem dX6_nextReminder_30 : decode cX6_nextReminder 30 = .ok (.if_icmp .ge 12, 3) := by decide +kernel
theorem dX6_nextReminder_33 : decode cX6_nextReminder 33 = .ok (.aload_n 0, 1) := by decide +kernel
theorem dX6_nextReminder_34 : decode cX6_nextReminder 34 = .ok (.getfield 7, 3) := by decide +kernel
theorem dX6_nextReminder_37 : decode cX6_nextReminder 37 = .ok (.iconst 0, 1) := by decide +kernel
theorem dX6_nextReminder_38 : decode cX6_nextReminder 38 = .ok (.iaload, 1) := by decide +kernel
theorem dX6_nextReminder_39 : decode cX6_nextReminder 39 = .ok (.goto 4, 3) := by decide +kernel
theorem dX6_nextReminder_42 : decode cX6_nextReminder 42 = .ok (.iload_n 2, 1) := by decide +kernel
theorem dX6_nextReminder_43 : decode cX6_nextReminder 43 = .ok (.istore_n 2, 1) := by decide +kernel
theorem dX6_nextReminder_44 : decode cX6_nextReminder 44 = .ok (.aload_n 0, 1) := by decide +kernel
theorem dX6_nextReminder_45 : decode cX6_nextReminder 45 = .ok (.iload_n 1, 1) := by decide +kernel
theorem dX6_nextReminder_46 : decode cX6_nextReminder 46 = .ok (.iconst 0, 1) := by decide +kernel
theorem dX6_nextReminder_47 : decode cX6_nextReminder 47 = .ok (.invokevirtual 62, 3) := by decide +kernel
theorem dX6_nextReminder_50 : decode cX6_nextReminder 50 = .ok (.ifCond .eq 25, 3) := by decide +kernel
theorem dX6_nextReminder_53 : decode cX6_nextReminder 53 = .ok (.aload_n 0, 1) := by decide +kernel
theorem dX6_nextReminder_54 : decode cX6_nextReminder 54 = .ok (.getfield 7, 3) := by decide +kernel
theorem dX6_nextReminder_57 : decode cX6_nextReminder 57 = .ok (.iload_n 1, 1) := by decide +kernel
theorem dX6_nextReminder_58 : decode cX6_nextReminder 58 = .ok (.bipush 9, 2) := by decide +kernel
theorem dX6_nextReminder_60 : decode cX6_nextReminder 60 = .ok (.invokestatic 51, 3) := by decide +kernel
theorem dX6_nextReminder_63 : decode cX6_nextReminder 63 = .ok (.iaload, 1) := by decide +kernel
theorem dX6_nextReminder_64 : decode cX6_nextReminder 64 = .ok (.iconst 3, 1) := by decide +kernel
theorem dX6_nextReminder_65 : decode cX6_nextReminder 65 = .ok (.if_icmp .eq 10, 3) := by decide +kernel
theorem dX6_nextReminder_68 : decode cX6_nextReminder 68 = .ok (.iload_n 2, 1) := by decide +kernel
theorem dX6_nextReminder_69 : decode cX6_nextReminder 69 = .ok (.sipush 9999, 3) := by decide +kernel
theorem dX6_nextReminder_72 : decode cX6_nextReminder 72 = .ok (.if_icmp .le 8, 3) := by decide +kernel
theorem dX6_nextReminder_75 : decode cX6_nextReminder 75 = .ok (.bipush (-5), 2) := by decide +kernel
theorem dX6_nextReminder_77 : decode cX6_nextReminder 77 = .ok (.goto 4, 3) := by decide +kernel
theorem dX6_nextReminder_80 : decode cX6_nextReminder 80 = .ok (.iload_n 2, 1) := by decide +kernel
theorem dX6_nextReminder_81 : decode cX6_nextReminder 81 = .ok (.ireturn, 1) := by decide +kernel
theorem dX6_worst_0 : decode cX6_worst 0 = .ok (.bipush (-5), 2) := by decide +kernel
theorem dX6_worst_2 : decode cX6_worst 2 = .ok (.istore_n 1, 1) := by decide +kernel
theorem dX6_worst_3 : decode cX6_worst 3 = .ok (.iconst 0, 1) := by decide +kernel
theorem dX6_worst_4 : decode cX6_worst 4 = .ok (.istore_n 2, 1) := by decide +kernel
theorem dX6_worst_5 : decode cX6_worst 5 = .ok (.iconst 0, 1) := by decide +kernel
theorem dX6_worst_6 : decode cX6_worst 6 = .ok (.istore_n 3, 1) := by decide +kernel
theorem dX6_worst_7 : decode cX6_worst 7 = .ok (.iload_n 3, 1) := by decide +kernel
theorem dX6_worst_8 : decode cX6_worst 8 = .ok (.bipush 8, 2) := by decide +kernel
theorem dX6_worst_10 : decode cX6_worst 10 = .ok (.if_icmp .ge 42, 3) := by decide +kernel
theorem dX6_worst_13 : decode cX6_worst 13 = .ok (.aload_n 0, 1) := by decide +kernel
theorem dX6_worst_14 : decode cX6_worst 14 = .ok (.iload_n 3, 1) := by decide +kernel
theorem dX6_worst_15 : decode cX6_worst 15 = .ok (.iconst 0, 1) := by decide +kernel
theorem dX6_worst_16 : decode cX6_worst 16 = .ok (.invokevirtual 201, 3) := by decide +kernel
theorem dX6_worst_19 : decode cX6_worst 19 = .ok (.istore 4, 2) := by decide +kernel
theorem dX6_worst_21 : decode cX6_worst 21 = .ok (.iload 4, 2) := by decide +kernel
theorem dX6_worst_23 : decode cX6_worst 23 = .ok (.iload_n 2, 1) := by decide +kernel
theorem dX6_worst_24 : decode cX6_worst 24 = .ok (.if_icmp .le 7, 3) := by decide +kernel
theorem dX6_worst_27 : decode cX6_worst 27 = .ok (.iload_n 3, 1) := by decide +kernel
theorem dX6_worst_28 : decode cX6_worst 28 = .ok (.goto 4, 3) := by decide +kernel
theorem dX6_worst_31 : decode cX6_worst 31 = .ok (.iload_n 1, 1) := by decide +kernel
theorem dX6_worst_32 : decode cX6_worst 32 = .ok (.istore_n 1, 1) := by decide +kernel
theorem dX6_worst_33 : decode cX6_worst 33 = .ok (.iload 4, 2) := by decide +kernel
theorem dX6_worst_35 : decode cX6_worst 35 = .ok (.iload_n 2, 1) := by decide +kernel
theorem dX6_worst_36 : decode cX6_worst 36 = .ok (.if_icmp .le 8, 3) := by decide +kernel
theorem dX6_worst_39 : decode cX6_worst 39 = .ok (.iload 4, 2) := by decide +kernel
theorem dX6_worst_41 : decode cX6_worst 41 = .ok (.goto 4, 3) := by decide +kernel
theorem dX6_worst_44 : decode cX6_worst 44 = .ok (.iload_n 2, 1) := by decide +kernel
theorem dX6_worst_45 : decode cX6_worst 45 = .ok (.istore_n 2, 1) := by decide +kernel
theorem dX6_worst_46 : decode cX6_worst 46 = .ok (.iinc 3 1, 3) := by decide +kernel
theorem dX6_worst_49 : decode cX6_worst 49 = .ok (.goto (-42), 3) := by decide +kernel
theorem dX6_worst_52 : decode cX6_worst 52 = .ok (.iload_n 1, 1) := by decide +kernel
theorem dX6_worst_53 : decode cX6_worst 53 = .ok (.ireturn, 1) := by decide +kernel
theorem dX6_sumOfCustomers_0 : decode cX6_sumOfCustomers 0 = .ok (.iconst 0, 1) := by decide +kernel
theorem dX6_sumOfCustomers_1 : decode cX6_sumOfCustomers 1 = .ok (.istore_n 2, 1) := by decide +kernel
theorem dX6_sumOfCustomers_2 : decode cX6_sumOfCustomers 2 = .ok (.iconst 0, 1) := by decide +kernel
theorem dX6_sumOfCustomers_3 : decode cX6_sumOfCustomers 3 = .ok (.istore_n 3, 1) := by decide +kernel
theorem dX6_sumOfCustomers_4 : decode cX6_sumOfCustomers 4 = .ok (.iload_n 3, 1) := by decide +kernel
theorem dX6_sumOfCustomers_5 : decode cX6_sumOfCustomers 5 = .ok (.bipush 8, 2) := by decide +kernel
theorem dX6_sumOfCustomers_7 : decode cX6_sumOfCustomers 7 = .ok (.if_icmp .ge 20, 3) := by decide +kernel
theorem dX6_sumOfCustomers_10 : decode cX6_sumOfCustomers 10 = .ok (.iload_n 2, 1) := by decide +kernel
theorem dX6_sumOfCustomers_11 : decode cX6_sumOfCustomers 11 = .ok (.aload_n 0, 1) := by decide +kernel
theorem dX6_sumOfCustomers_12 : decode cX6_sumOfCustomers 12 = .ok (.getfield 7, 3) := by decide +kernel
theorem dX6_sumOfCustomers_15 : decode cX6_sumOfCustomers 15 = .ok (.iload_n 1, 1) := by decide +kernel
theorem dX6_sumOfCustomers_16 : decode cX6_sumOfCustomers 16 = .ok (.iload_n 3, 1) := by decide +kernel
theorem dX6_sumOfCustomers_17 : decode cX6_sumOfCustomers 17 = .ok (.iadd, 1) := by decide +kernel
theorem dX6_sumOfCustomers_18 : decode cX6_sumOfCustomers 18 = .ok (.iaload, 1) := by decide +kernel
theorem dX6_sumOfCustomers_19 : decode cX6_sumOfCustomers 19 = .ok (.iadd, 1) := by decide +kernel
theorem dX6_sumOfCustomers_20 : decode cX6_sumOfCustomers 20 = .ok (.istore_n 2, 1) := by decide +kernel
theorem dX6_sumOfCustomers_21 : decode cX6_sumOfCustomers 21 = .ok (.iinc 3 1, 3) := by decide +kernel
theorem dX6_sumOfCustomers_24 : decode cX6_sumOfCustomers 24 = .ok (.goto (-20), 3) := by decide +kernel
theorem dX6_sumOfCustomers_27 : decode cX6_sumOfCustomers 27 = .ok (.iload_n 2, 1) := by decide +kernel
theorem dX6_sumOfCustomers_28 : decode cX6_sumOfCustomers 28 = .ok (.ireturn, 1) := by decide +kernel
theorem dX6_count_0 : decode cX6_count 0 = .ok (.iload_n 1, 1) := by decide +kernel
theorem dX6_count_1 : decode cX6_count 1 = .ok (.bipush 15, 2) := by decide +kernel
theorem dX6_count_3 : decode cX6_count 3 = .ok (.bipush 19, 2) := by decide +kernel
theorem dX6_count_5 : decode cX6_count 5 = .ok (.invokestatic 38, 3) := by decide +kernel
theorem dX6_count_8 : decode cX6_count 8 = .ok (.ifCond .eq 15, 3) := by decide +kernel
theorem dX6_count_11 : decode cX6_count 11 = .ok (.aload_n 0, 1) := by decide +kernel
theorem dX6_count_12 : decode cX6_count 12 = .ok (.getfield 7, 3) := by decide +kernel
theorem dX6_count_15 : decode cX6_count 15 = .ok (.iconst 1, 1) := by decide +kernel
theorem dX6_count_16 : decode cX6_count 16 = .ok (.iload_n 1, 1) := by decide +kernel
theorem dX6_count_17 : decode cX6_count 17 = .ok (.iadd, 1) := by decide +kernel
theorem dX6_count_18 : decode cX6_count 18 = .ok (.bipush 15, 2) := by decide +kernel
theorem dX6_count_20 : decode cX6_count 20 = .ok (.isub, 1) := by decide +kernel
theorem dX6_count_21 : decode cX6_count 21 = .ok (.iaload, 1) := by decide +kernel
theorem dX6_count_22 : decode cX6_count 22 = .ok (.ireturn, 1) := by decide +kernel
theorem dX6_count_23 : decode cX6_count 23 = .ok (.iload_n 1, 1) := by decide +kernel
theorem dX6_count_24 : decode cX6_count 24 = .ok (.tableswitch 211 0 21 #[104, 111, 119, 119, 119, 129, 134, 142, 150, 157, 164, 172, 179, 186, 193, 211, 211, 211, 211, 211, 201, 206], 104) := by decide +kernel
theorem dX6_count_128 : decode cX6_count 128 = .ok (.aload_n 0, 1) := by decide +kernel
theorem dX6_count_129 : decode cX6_count 129 = .ok (.getfield 7, 3) := by decide +kernel
theorem dX6_count_132 : decode cX6_count 132 = .ok (.iconst 0, 1) := by decide +kernel
theorem dX6_count_133 : decode cX6_count 133 = .ok (.iaload, 1) := by decide +kernel
theorem dX6_count_134 : decode cX6_count 134 = .ok (.ireturn, 1) := by decide +kernel
theorem dX6_count_135 : decode cX6_count 135 = .ok (.aload_n 0, 1) := by decide +kernel
theorem dX6_count_136 : decode cX6_count 136 = .ok (.getfield 7, 3) := by decide +kernel
theorem dX6_count_139 : decode cX6_count 139 = .ok (.bipush 6, 2) := by decide +kernel
theorem dX6_count_141 : decode cX6_count 141 = .ok (.iaload, 1) := by decide +kernel
theorem dX6_count_142 : decode cX6_count 142 = .ok (.ireturn, 1) := by decide +kernel
theorem dX6_count_143 : decode cX6_count 143 = .ok (.aload_n 0, 1) := by decide +kernel
theorem dX6_count_144 : decode cX6_count 144 = .ok (.bipush (-5), 2) := by decide +kernel
theorem dX6_count_146 : decode cX6_count 146 = .ok (.iload_n 1, 1) := by decide +kernel
theorem dX6_count_147 : decode cX6_count 147 = .ok (.iconst 2, 1) := by decide +kernel
theorem dX6_count_148 : decode cX6_count 148 = .ok (.isub, 1) := by decide +kernel
theorem dX6_count_149 : decode cX6_count 149 = .ok (.invokevirtual 198, 3) := by decide +kernel
theorem dX6_count_152 : decode cX6_count 152 = .ok (.ireturn, 1) := by decide +kernel
theorem dX6_count_153 : decode cX6_count 153 = .ok (.aload_n 0, 1) := by decide +kernel
theorem dX6_count_154 : decode cX6_count 154 = .ok (.invokevirtual 137, 3) := by decide +kernel
theorem dX6_count_157 : decode cX6_count 157 = .ok (.ireturn, 1) := by decide +kernel
theorem dX6_count_158 : decode cX6_count 158 = .ok (.aload_n 0, 1) := by decide +kernel
theorem dX6_count_159 : decode cX6_count 159 = .ok (.bipush (-5), 2) := by decide +kernel
theorem dX6_count_161 : decode cX6_count 161 = .ok (.iconst 0, 1) := by decide +kernel
theorem dX6_count_162 : decode cX6_count 162 = .ok (.invokevirtual 201, 3) := by decide +kernel
theorem dX6_count_165 : decode cX6_count 165 = .ok (.ireturn, 1) := by decide +kernel
theorem dX6_count_166 : decode cX6_count 166 = .ok (.aload_n 0, 1) := by decide +kernel
theorem dX6_count_167 : decode cX6_count 167 = .ok (.bipush (-5), 2) := by decide +kernel
theorem dX6_count_169 : decode cX6_count 169 = .ok (.iconst 2, 1) := by decide +kernel
theorem dX6_count_170 : decode cX6_count 170 = .ok (.invokevirtual 201, 3) := by decide +kernel
theorem dX6_count_173 : decode cX6_count 173 = .ok (.ireturn, 1) := by decide +kernel
theorem dX6_count_174 : decode cX6_count 174 = .ok (.aload_n 0, 1) := by decide +kernel
theorem dX6_count_175 : decode cX6_count 175 = .ok (.bipush 9, 2) := by decide +kernel
theorem dX6_count_177 : decode cX6_count 177 = .ok (.invokevirtual 210, 3) := by decide +kernel
theorem dX6_count_180 : decode cX6_count 180 = .ok (.ireturn, 1) := by decide +kernel
theorem dX6_count_181 : decode cX6_count 181 = .ok (.aload_n 0, 1) := by decide +kernel
theorem dX6_count_182 : decode cX6_count 182 = .ok (.bipush 17, 2) := by decide +kernel
theorem dX6_count_184 : decode cX6_count 184 = .ok (.invokevirtual 210, 3) := by decide +kernel
theorem dX6_count_187 : decode cX6_count 187 = .ok (.ireturn, 1) := by decide +kernel
theorem dX6_count_188 : decode cX6_count 188 = .ok (.aload_n 0, 1) := by decide +kernel
theorem dX6_count_189 : decode cX6_count 189 = .ok (.getfield 7, 3) := by decide +kernel
theorem dX6_count_192 : decode cX6_count 192 = .ok (.bipush 7, 2) := by decide +kernel
theorem dX6_count_194 : decode cX6_count 194 = .ok (.iaload, 1) := by decide +kernel
theorem dX6_count_195 : decode cX6_count 195 = .ok (.ireturn, 1) := by decide +kernel
theorem dX6_count_196 : decode cX6_count 196 = .ok (.aload_n 0, 1) := by decide +kernel
theorem dX6_count_197 : decode cX6_count 197 = .ok (.bipush 7, 2) := by decide +kernel
theorem dX6_count_199 : decode cX6_count 199 = .ok (.invokevirtual 207, 3) := by decide +kernel
theorem dX6_count_202 : decode cX6_count 202 = .ok (.ireturn, 1) := by decide +kernel
theorem dX6_count_203 : decode cX6_count 203 = .ok (.aload_n 0, 1) := by decide +kernel
theorem dX6_count_204 : decode cX6_count 204 = .ok (.bipush 8, 2) := by decide +kernel
theorem dX6_count_206 : decode cX6_count 206 = .ok (.invokevirtual 207, 3) := by decide +kernel
theorem dX6_count_209 : decode cX6_count 209 = .ok (.ireturn, 1) := by decide +kernel
theorem dX6_count_210 : decode cX6_count 210 = .ok (.aload_n 0, 1) := by decide +kernel
theorem dX6_count_211 : decode cX6_count 211 = .ok (.bipush 9, 2) := by decide +kernel
theorem dX6_count_213 : decode cX6_count 213 = .ok (.invokevirtual 207, 3) := by decide +kernel
theorem dX6_count_216 : decode cX6_count 216 = .ok (.ireturn, 1) := by decide +kernel
theorem dX6_count_217 : decode cX6_count 217 = .ok (.aload_n 0, 1) := by decide +kernel
theorem dX6_count_218 : decode cX6_count 218 = .ok (.getfield 7, 3) := by decide +kernel
theorem dX6_count_221 : decode cX6_count 221 = .ok (.bipush 8, 2) := by decide +kernel
theorem dX6_count_223 : decode cX6_count 223 = .ok (.iaload, 1) := by decide +kernel
theorem dX6_count_224 : decode cX6_count 224 = .ok (.ireturn, 1) := by decide +kernel
theorem dX6_count_225 : decode cX6_count 225 = .ok (.aload_n 0, 1) := by decide +kernel
theorem dX6_count_226 : decode cX6_count 226 = .ok (.getfield 42, 3) := by decide +kernel
theorem dX6_count_229 : decode cX6_count 229 = .ok (.ireturn, 1) := by decide +kernel
theorem dX6_count_230 : decode cX6_count 230 = .ok (.aload_n 0, 1) := by decide +kernel
theorem dX6_count_231 : decode cX6_count 231 = .ok (.getfield 156, 3) := by decide +kernel
theorem dX6_count_234 : decode cX6_count 234 = .ok (.ireturn, 1) := by decide +kernel
theorem dX6_count_235 : decode cX6_count 235 = .ok (.bipush (-2), 2) := by decide +kernel
theorem dX6_count_237 : decode cX6_count 237 = .ok (.ireturn, 1) := by decide +kernel
