theorem dX0_init_0 : decode cX0_init 0 = .ok (.aload_n 0, 1) := by decide +kernel
theorem dX0_init_1 : decode cX0_init 1 = .ok (.invokespecial 3, 3) := by decide +kernel
theorem dX0_init_4 : decode cX0_init 4 = .ok (.aload_n 0, 1) := by decide +kernel
theorem dX0_init_5 : decode cX0_init 5 = .ok (.bipush 12, 2) := by decide +kernel
theorem dX0_init_7 : decode cX0_init 7 = .ok (.newarray .int, 2) := by decide +kernel
theorem dX0_init_9 : decode cX0_init 9 = .ok (.putfield 9, 3) := by decide +kernel
theorem dX0_init_12 : decode cX0_init 12 = .ok (.aload_n 0, 1) := by decide +kernel
theorem dX0_init_13 : decode cX0_init 13 = .ok (.bipush 40, 2) := by decide +kernel
theorem dX0_init_15 : decode cX0_init 15 = .ok (.newarray .int, 2) := by decide +kernel
theorem dX0_init_17 : decode cX0_init 17 = .ok (.putfield 15, 3) := by decide +kernel
theorem dX0_init_20 : decode cX0_init 20 = .ok (.aload_n 0, 1) := by decide +kernel
theorem dX0_init_21 : decode cX0_init 21 = .ok (.bipush 40, 2) := by decide +kernel
theorem dX0_init_23 : decode cX0_init 23 = .ok (.newarray .int, 2) := by decide +kernel
theorem dX0_init_25 : decode cX0_init 25 = .ok (.putfield 18, 3) := by decide +kernel
theorem dX0_init_28 : decode cX0_init 28 = .ok (.aload_n 0, 1) := by decide +kernel
theorem dX0_init_29 : decode cX0_init 29 = .ok (.bipush 40, 2) := by decide +kernel
theorem dX0_init_31 : decode cX0_init 31 = .ok (.newarray .int, 2) := by decide +kernel
theorem dX0_init_33 : decode cX0_init 33 = .ok (.putfield 21, 3) := by decide +kernel
theorem dX0_init_36 : decode cX0_init 36 = .ok (.aload_n 0, 1) := by decide +kernel
theorem dX0_init_37 : decode cX0_init 37 = .ok (.bipush 40, 2) := by decide +kernel
theorem dX0_init_39 : decode cX0_init 39 = .ok (.newarray .int, 2) := by decide +kernel
theorem dX0_init_41 : decode cX0_init 41 = .ok (.putfield 24, 3) := by decide +kernel
theorem dX0_init_44 : decode cX0_init 44 = .ok (.aload_n 0, 1) := by decide +kernel
theorem dX0_init_45 : decode cX0_init 45 = .ok (.bipush 40, 2) := by decide +kernel
theorem dX0_init_47 : decode cX0_init 47 = .ok (.newarray .int, 2) := by decide +kernel
theorem dX0_init_49 : decode cX0_init 49 = .ok (.putfield 27, 3) := by decide +kernel
theorem dX0_init_52 : decode cX0_init 52 = .ok (.return_, 1) := by decide +kernel
theorem dX0_become_0 : decode cX0_become 0 = .ok (.aload_n 0, 1) := by decide +kernel
theorem dX0_become_1 : decode cX0_become 1 = .ok (.aload_n 1, 1) := by decide +kernel
theorem dX0_become_2 : decode cX0_become 2 = .ok (.getfield 30, 3) := by decide +kernel
theorem dX0_become_5 : decode cX0_become 5 = .ok (.putfield 30, 3) := by decide +kernel
theorem dX0_become_8 : decode cX0_become 8 = .ok (.aload_n 1, 1) := by decide +kernel
theorem dX0_become_9 : decode cX0_become 9 = .ok (.getfield 9, 3) := by decide +kernel
theorem dX0_become_12 : decode cX0_become 12 = .ok (.iconst 0, 1) := by decide +kernel
theorem dX0_become_13 : decode cX0_become 13 = .ok (.aload_n 0, 1) := by decide +kernel
theorem dX0_become_14 : decode cX0_become 14 = .ok (.getfield 9, 3) := by decide +kernel
theorem dX0_become_17 : decode cX0_become 17 = .ok (.iconst 0, 1) := by decide +kernel
theorem dX0_become_18 : decode cX0_become 18 = .ok (.bipush 12, 2) := by decide +kernel
theorem dX0_become_20 : decode cX0_become 20 = .ok (.invokestatic 34, 3) := by decide +kernel
theorem dX0_become_23 : decode cX0_become 23 = .ok (.aload_n 0, 1) := by decide +kernel
theorem dX0_become_24 : decode cX0_become 24 = .ok (.aload_n 1, 1) := by decide +kernel
theorem dX0_become_25 : decode cX0_become 25 = .ok (.getfield 40, 3) := by decide +kernel
theorem dX0_become_28 : decode cX0_become 28 = .ok (.putfield 40, 3) := by decide +kernel
theorem dX0_become_31 : decode cX0_become 31 = .ok (.aload_n 1, 1) := by decide +kernel
theorem dX0_become_32 : decode cX0_become 32 = .ok (.getfield 15, 3) := by decide +kernel
theorem dX0_become_35 : decode cX0_become 35 = .ok (.iconst 0, 1) := by decide +kernel
theorem dX0_become_36 : decode cX0_become 36 = .ok (.aload_n 0, 1) := by decide +kernel
theorem dX0_become_37 : decode cX0_become 37 = .ok (.getfield 15, 3) := by decide +kernel
theorem dX0_become_40 : decode cX0_become 40 = .ok (.iconst 0, 1) := by decide +kernel
theorem dX0_become_41 : decode cX0_become 41 = .ok (.bipush 40, 2) := by decide +kernel
theorem dX0_become_43 : decode cX0_become 43 = .ok (.invokestatic 34, 3) := by decide +kernel
theorem dX0_become_46 : decode cX0_become 46 = .ok (.aload_n 1, 1) := by decide +kernel
theorem dX0_become_47 : decode cX0_become 47 = .ok (.getfield 18, 3) := by decide +kernel
theorem dX0_become_50 : decode cX0_become 50 = .ok (.iconst 0, 1) := by decide +kernel
theorem dX0_become_51 : decode cX0_become 51 = .ok (.aload_n 0, 1) := by decide +kernel
theorem dX0_become_52 : decode cX0_become 52 = .ok (.getfield 18, 3) := by decide +kernel
theorem dX0_become_55 : decode cX0_become 55 = .ok (.iconst 0, 1) := by decide +kernel
theorem dX0_become_56 : decode cX0_become 56 = .ok (.bipush 40, 2) := by decide +kernel
theorem dX0_become_58 : decode cX0_become 58 = .ok (.invokestatic 34, 3) := by decide +kernel
theorem dX0_become_61 : decode cX0_become 61 = .ok (.aload_n 1, 1) := by decide +kernel
theorem dX0_become_62 : decode cX0_become 62 = .ok (.getfield 21, 3) := by decide +kernel
theorem dX0_become_65 : decode cX0_become 65 = .ok (.iconst 0, 1) := by decide +kernel
theorem dX0_become_66 : decode cX0_become 66 = .ok (.aload_n 0, 1) := by decide +kernel
theorem dX0_become_67 : decode cX0_become 67 = .ok (.getfield 21, 3) := by decide +kernel
theorem dX0_become_70 : decode cX0_become 70 = .ok (.iconst 0, 1) := by decide +kernel
theorem dX0_become_71 : decode cX0_become 71 = .ok (.bipush 40, 2) := by decide +kernel
theorem dX0_become_73 : decode cX0_become 73 = .ok (.invokestatic 34, 3) := by decide +kernel
theorem dX0_become_76 : decode cX0_become 76 = .ok (.aload_n 1, 1) := by decide +kernel
theorem dX0_become_77 : decode cX0_become 77 = .ok (.getfield 24, 3) := by decide +kernel
theorem dX0_become_80 : decode cX0_become 80 = .ok (.iconst 0, 1) := by decide +kernel
theorem dX0_become_81 : decode cX0_become 81 = .ok (.aload_n 0, 1) := by decide +kernel
theorem dX0_become_82 : decode cX0_become 82 = .ok (.getfield 24, 3) := by decide +kernel
theorem dX0_become_85 : decode cX0_become 85 = .ok (.iconst 0, 1) := by decide +kernel
theorem dX0_become_86 : decode cX0_become 86 = .ok (.bipush 40, 2) := by decide +kernel
theorem dX0_become_88 : decode cX0_become 88 = .ok (.invokestatic 34, 3) := by decide +kernel
theorem dX0_become_91 : decode cX0_become 91 = .ok (.aload_n 1, 1) := by decide +kernel
theorem dX0_become_92 : decode cX0_become 92 = .ok (.getfield 27, 3) := by decide +kernel
theorem dX0_become_95 : decode cX0_become 95 = .ok (.iconst 0, 1) := by decide +kernel
theorem dX0_become_96 : decode cX0_become 96 = .ok (.aload_n 0, 1) := by decide +kernel
theorem dX0_become_97 : decode cX0_become 97 = .ok (.getfield 27, 3) := by decide +kernel
theorem dX0_become_100 : decode cX0_become 100 = .ok (.iconst 0, 1) := by decide +kernel
theorem dX0_become_101 : decode cX0_become 101 = .ok (.bipush 40, 2) := by decide +kernel
theorem dX0_become_103 : decode cX0_become 103 = .ok (.invokestatic 34, 3) := by decide +kernel
theorem dX0_become_106 : decode cX0_become 106 = .ok (.return_, 1) := by decide +kernel
theorem dX0_hasTable_0 : decode cX0_hasTable 0 = .ok (.iload_n 1, 1) := by decide +kernel
theorem dX0_hasTable_1 : decode cX0_hasTable 1 = .ok (.ifCond .lt 15, 3) := by decide +kernel
theorem dX0_hasTable_4 : decode cX0_hasTable 4 = .ok (.iload_n 1, 1) := by decide +kernel
theorem dX0_hasTable_5 : decode cX0_hasTable 5 = .ok (.aload_n 0, 1) := by decide +kernel
theorem dX0_hasTable_6 : decode cX0_hasTable 6 = .ok (.getfield 30, 3) := by decide +kernel
theorem dX0_hasTable_9 : decode cX0_hasTable 9 = .ok (.if_icmp .ge 7, 3) := by decide +kernel
theorem dX0_hasTable_12 : decode cX0_hasTable 12 = .ok (.iconst 1, 1) := by decide +kernel
theorem dX0_hasTable_13 : decode cX0_hasTable 13 = .ok (.goto 4, 3) := by decide +kernel
theorem dX0_hasTable_16 : decode cX0_hasTable 16 = .ok (.iconst 0, 1) := by decide +kernel
theorem dX0_hasTable_17 : decode cX0_hasTable 17 = .ok (.ireturn, 1) := by decide +kernel
theorem dX0_has_0 : decode cX0_has 0 = .ok (.iload_n 1, 1) := by decide +kernel
theorem dX0_has_1 : decode cX0_has 1 = .ok (.ifCond .lt 15, 3) := by decide +kernel
theorem dX0_has_4 : decode cX0_has 4 = .ok (.iload_n 1, 1) := by decide +kernel
theorem dX0_has_5 : decode cX0_has 5 = .ok (.aload_n 0, 1) := by decide +kernel
theorem dX0_has_6 : decode cX0_has 6 = .ok (.getfield 40, 3) := by decide +kernel
theorem dX0_has_9 : decode cX0_has 9 = .ok (.if_icmp .ge 7, 3) := by decide +kernel
theorem dX0_has_12 : decode cX0_has 12 = .ok (.iconst 1, 1) := by decide +kernel
theorem dX0_has_13 : decode cX0_has 13 = .ok (.goto 4, 3) := by decide +kernel
theorem dX0_has_16 : decode cX0_has 16 = .ok (.iconst 0, 1) := by decide +kernel
theorem dX0_has_17 : decode cX0_has 17 = .ok (.ireturn, 1) := by decide +kernel
theorem dX0_addTable_0 : decode cX0_addTable 0 = .ok (.aload_n 0, 1) := by decide +kernel
theorem dX0_addTable_1 : decode cX0_addTable 1 = .ok (.getfield 30, 3) := by decide +kernel
theorem dX0_addTable_4 : decode cX0_addTable 4 = .ok (.ifCond .le 21, 3) := by decide +kernel
theorem dX0_addTable_7 : decode cX0_addTable 7 = .ok (.iload_n 1, 1) := by decide +kernel
theorem dX0_addTable_8 : decode cX0_addTable 8 = .ok (.aload_n 0, 1) := by decide +kernel
theorem dX0_addTable_9 : decode cX0_addTable 9 = .ok (.getfield 9, 3) := by decide +kernel
theorem dX0_addTable_12 : decode cX0_addTable 12 = .ok (.aload_n 0, 1) := by decide +kernel
theorem dX0_addTable_13 : decode cX0_addTable 13 = .ok (.getfield 30, 3) := by decide +kernel
theorem dX0_addTable_16 : decode cX0_addTable 16 = .ok (.iconst 1, 1) := by decide +kernel
theorem dX0_addTable_17 : decode cX0_addTable 17 = .ok (.isub, 1) := by decide +kernel
theorem dX0_addTable_18 : decode cX0_addTable 18 = .ok (.iaload, 1) := by decide +kernel
theorem dX0_addTable_19 : decode cX0_addTable 19 = .ok (.if_icmp .ge 6, 3) := by decide +kernel
theorem dX0_addTable_22 : decode cX0_addTable 22 = .ok (.ldc 43, 2) := by decide +kernel
theorem dX0_addTable_24 : decode cX0_addTable 24 = .ok (.ireturn, 1) := by decide +kernel
theorem dX0_addTable_25 : decode cX0_addTable 25 = .ok (.aload_n 0, 1) := by decide +kernel
theorem dX0_addTable_26 : decode cX0_addTable 26 = .ok (.getfield 30, 3) := by decide +kernel
theorem dX0_addTable_29 : decode cX0_addTable 29 = .ok (.bipush 12, 2) := by decide +kernel
theorem dX0_addTable_31 : decode cX0_addTable 31 = .ok (.if_icmp .lt 6, 3) := by decide +kernel
theorem dX0_addTable_34 : decode cX0_addTable 34 = .ok (.ldc 44, 2) := by decide +kernel
theorem dX0_addTable_36 : decode cX0_addTable 36 = .ok (.ireturn, 1) := by decide +kernel
theorem dX0_addTable_37 : decode cX0_addTable 37 = .ok (.aload_n 0, 1) := by decide +kernel
theorem dX0_addTable_38 : decode cX0_addTable 38 = .ok (.getfield 9, 3) := by decide +kernel
theorem dX0_addTable_41 : decode cX0_addTable 41 = .ok (.aload_n 0, 1) := by decide +kernel
theorem dX0_addTable_42 : decode cX0_addTable 42 = .ok (.getfield 30, 3) := by decide +kernel
theorem dX0_addTable_45 : decode cX0_addTable 45 = .ok (.iload_n 1, 1) := by decide +kernel
theorem dX0_addTable_46 : decode cX0_addTable 46 = .ok (.iastore, 1) := by decide +kernel
theorem dX0_addTable_47 : decode cX0_addTable 47 = .ok (.aload_n 0, 1) := by decide +kernel
theorem dX0_addTable_48 : decode cX0_addTable 48 = .ok (.dup, 1) := by decide +kernel
theorem dX0_addTable_49 : decode cX0_addTable 49 = .ok (.getfield 30, 3) := by decide +kernel
theorem dX0_addTable_52 : decode cX0_addTable 52 = .ok (.iconst 1, 1) := by decide +kernel
theorem dX0_addTable_53 : decode cX0_addTable 53 = .ok (.iadd, 1) := by decide +kernel
theorem dX0_addTable_54 : decode cX0_addTable 54 = .ok (.putfield 30, 3) := by decide +kernel
theorem dX0_addTable_57 : decode cX0_addTable 57 = .ok (.aload_n 0, 1) := by decide +kernel
theorem dX0_addTable_58 : decode cX0_addTable 58 = .ok (.getfield 30, 3) := by decide +kernel
theorem dX0_addTable_61 : decode cX0_addTable 61 = .ok (.iconst 1, 1) := by decide +kernel
theorem dX0_addTable_62 : decode cX0_addTable 62 = .ok (.isub, 1) := by decide +kernel
theorem dX0_addTable_63 : decode cX0_addTable 63 = .ok (.ireturn, 1) := by decide +kernel
theorem dX0_add_0 : decode cX0_add 0 = .ok (.aload_n 0, 1) := by decide +kernel
theorem dX0_add_1 : decode cX0_add 1 = .ok (.getfield 40, 3) := by decide +kernel
theorem dX0_add_4 : decode cX0_add 4 = .ok (.bipush 40, 2) := by decide +kernel
theorem dX0_add_6 : decode cX0_add 6 = .ok (.if_icmp .lt 6, 3) := by decide +kernel
theorem dX0_add_9 : decode cX0_add 9 = .ok (.ldc 44, 2) := by decide +kernel
theorem dX0_add_11 : decode cX0_add 11 = .ok (.ireturn, 1) := by decide +kernel
theorem dX0_add_12 : decode cX0_add 12 = .ok (.aload_n 0, 1) := by decide +kernel
theorem dX0_add_13 : decode cX0_add 13 = .ok (.getfield 15, 3) := by decide +kernel
theorem dX0_add_16 : decode cX0_add 16 = .ok (.aload_n 0, 1) := by decide +kernel
theorem dX0_add_17 : decode cX0_add 17 = .ok (.getfield 40, 3) := by decide +kernel
theorem dX0_add_20 : decode cX0_add 20 = .ok (.iload_n 1, 1) := by decide +kernel
theorem dX0_add_21 : decode cX0_add 21 = .ok (.iastore, 1) := by decide +kernel
theorem dX0_add_22 : decode cX0_add 22 = .ok (.aload_n 0, 1) := by decide +kernel
theorem dX0_add_23 : decode cX0_add 23 = .ok (.getfield 18, 3) := by decide +kernel
theorem dX0_add_26 : decode cX0_add 26 = .ok (.aload_n 0, 1) := by decide +kernel
theorem dX0_add_27 : decode cX0_add 27 = .ok (.getfield 40, 3) := by decide +kernel
theorem dX0_add_30 : decode cX0_add 30 = .ok (.iload_n 2, 1) := by decide +kernel
theorem dX0_add_31 : decode cX0_add 31 = .ok (.iastore, 1) := by decide +kernel
theorem dX0_add_32 : decode cX0_add 32 = .ok (.aload_n 0, 1) := by decide +kernel
theorem dX0_add_33 : decode cX0_add 33 = .ok (.getfield 21, 3) := by decide +kernel
theorem dX0_add_36 : decode cX0_add 36 = .ok (.aload_n 0, 1) := by decide +kernel
theorem dX0_add_37 : decode cX0_add 37 = .ok (.getfield 40, 3) := by decide +kernel
theorem dX0_add_40 : decode cX0_add 40 = .ok (.iload_n 3, 1) := by decide +kernel
theorem dX0_add_41 : decode cX0_add 41 = .ok (.iastore, 1) := by decide +kernel
theorem dX0_add_42 : decode cX0_add 42 = .ok (.aload_n 0, 1) := by decide +kernel
theorem dX0_add_43 : decode cX0_add 43 = .ok (.getfield 24, 3) := by decide +kernel
theorem dX0_add_46 : decode cX0_add 46 = .ok (.aload_n 0, 1) := by decide +kernel
theorem dX0_add_47 : decode cX0_add 47 = .ok (.getfield 40, 3) := by decide +kernel
theorem dX0_add_50 : decode cX0_add 50 = .ok (.iload 4, 2) := by decide +kernel
theorem dX0_add_52 : decode cX0_add 52 = .ok (.iastore, 1) := by decide +kernel
theorem dX0_add_53 : decode cX0_add 53 = .ok (.aload_n 0, 1) := by decide +kernel
theorem dX0_add_54 : decode cX0_add 54 = .ok (.getfield 27, 3) := by decide +kernel
theorem dX0_add_57 : decode cX0_add 57 = .ok (.aload_n 0, 1) := by decide +kernel
theorem dX0_add_58 : decode cX0_add 58 = .ok (.getfield 40, 3) := by decide +kernel
theorem dX0_add_61 : decode cX0_add 61 = .ok (.iload 5, 2) := by decide +kernel
theorem dX0_add_63 : decode cX0_add 63 = .ok (.iastore, 1) := by decide +kernel
theorem dX0_add_64 : decode cX0_add 64 = .ok (.aload_n 0, 1) := by decide +kernel
theorem dX0_add_65 : decode cX0_add 65 = .ok (.dup, 1) := by decide +kernel
theorem dX0_add_66 : decode cX0_add 66 = .ok (.getfield 40, 3) := by decide +kernel
theorem dX0_add_69 : decode cX0_add 69 = .ok (.iconst 1, 1) := by decide +kernel
theorem dX0_add_70 : decode cX0_add 70 = .ok (.iadd, 1) := by decide +kernel
theorem dX0_add_71 : decode cX0_add 71 = .ok (.putfield 40, 3) := by decide +kernel
theorem dX0_add_74 : decode cX0_add 74 = .ok (.aload_n 0, 1) := by decide +kernel
theorem dX0_add_75 : decode cX0_add 75 = .ok (.getfield 40, 3) := by decide +kernel
theorem dX0_add_78 : decode cX0_add 78 = .ok (.iconst 1, 1) := by decide +kernel
theorem dX0_add_79 : decode cX0_add 79 = .ok (.isub, 1) := by decide +kernel
theorem dX0_add_80 : decode cX0_add 80 = .ok (.ireturn, 1) := by decide +kernel
theorem dX0_yearOf_0 : decode cX0_yearOf 0 = .ok (.aload_n 0, 1) := by decide +kernel
theorem dX0_yearOf_1 : decode cX0_yearOf 1 = .ok (.getfield 9, 3) := by decide +kernel
theorem dX0_yearOf_4 : decode cX0_yearOf 4 = .ok (.aload_n 0, 1) := by decide +kernel
theorem dX0_yearOf_5 : decode cX0_yearOf 5 = .ok (.getfield 15, 3) := by decide +kernel
theorem dX0_yearOf_8 : decode cX0_yearOf 8 = .ok (.iload_n 1, 1) := by decide +kernel
theorem dX0_yearOf_9 : decode cX0_yearOf 9 = .ok (.iaload, 1) := by decide +kernel
theorem dX0_yearOf_10 : decode cX0_yearOf 10 = .ok (.iaload, 1) := by decide +kernel
theorem dX0_yearOf_11 : decode cX0_yearOf 11 = .ok (.ireturn, 1) := by decide +kernel
theorem dX0_aheadOf_0 : decode cX0_aheadOf 0 = .ok (.iconst 0, 1) := by decide +kernel
theorem dX0_aheadOf_1 : decode cX0_aheadOf 1 = .ok (.istore_n 2, 1) := by decide +kernel
theorem dX0_aheadOf_2 : decode cX0_aheadOf 2 = .ok (.iconst 0, 1) := by decide +kernel
theorem dX0_aheadOf_3 : decode cX0_aheadOf 3 = .ok (.istore_n 3, 1) := by decide +kernel
theorem dX0_aheadOf_4 : decode cX0_aheadOf 4 = .ok (.iload_n 3, 1) := by decide +kernel
theorem dX0_aheadOf_5 : decode cX0_aheadOf 5 = .ok (.iload_n 1, 1) := by decide +kernel
theorem dX0_aheadOf_6 : decode cX0_aheadOf 6 = .ok (.if_icmp .ge 27, 3) := by decide +kernel
theorem dX0_aheadOf_9 : decode cX0_aheadOf 9 = .ok (.aload_n 0, 1) := by decide +kernel
theorem dX0_aheadOf_10 : decode cX0_aheadOf 10 = .ok (.getfield 15, 3) := by decide +kernel
theorem dX0_aheadOf_13 : decode cX0_aheadOf 13 = .ok (.iload_n 3, 1) := by decide +kernel
theorem dX0_aheadOf_14 : decode cX0_aheadOf 14 = .ok (.iaload, 1) := by decide +kernel
theorem dX0_aheadOf_15 : decode cX0_aheadOf 15 = .ok (.aload_n 0, 1) := by decide +kernel
theorem dX0_aheadOf_16 : decode cX0_aheadOf 16 = .ok (.getfield 15, 3) := by decide +kernel
theorem dX0_aheadOf_19 : decode cX0_aheadOf 19 = .ok (.iload_n 1, 1) := by decide +kernel
theorem dX0_aheadOf_20 : decode cX0_aheadOf 20 = .ok (.iaload, 1) := by decide +kernel
theorem dX0_aheadOf_21 : decode cX0_aheadOf 21 = .ok (.if_icmp .ne 6, 3) := by decide +kernel
theorem dX0_aheadOf_24 : decode cX0_aheadOf 24 = .ok (.iinc 2 1, 3) := by decide +kernel
theorem dX0_aheadOf_27 : decode cX0_aheadOf 27 = .ok (.iinc 3 1, 3) := by decide +kernel
theorem dX0_aheadOf_30 : decode cX0_aheadOf 30 = .ok (.goto (-26), 3) := by decide +kernel
theorem dX0_aheadOf_33 : decode cX0_aheadOf 33 = .ok (.iload_n 2, 1) := by decide +kernel
theorem dX0_aheadOf_34 : decode cX0_aheadOf 34 = .ok (.ireturn, 1) := by decide +kernel
theorem dX0_withLast_0 : decode cX0_withLast 0 = .ok (.iconst 0, 1) := by decide +kernel
theorem dX0_withLast_1 : decode cX0_withLast 1 = .ok (.istore_n 2, 1) := by decide +kernel
theorem dX0_withLast_2 : decode cX0_withLast 2 = .ok (.iconst 0, 1) := by decide +kernel
theorem dX0_withLast_3 : decode cX0_withLast 3 = .ok (.istore_n 3, 1) := by decide +kernel
theorem dX0_withLast_4 : decode cX0_withLast 4 = .ok (.iload_n 3, 1) := by decide +kernel
theorem dX0_withLast_5 : decode cX0_withLast 5 = .ok (.aload_n 0, 1) := by decide +kernel
theorem dX0_withLast_6 : decode cX0_withLast 6 = .ok (.getfield 40, 3) := by decide +kernel
theorem dX0_withLast_9 : decode cX0_withLast 9 = .ok (.if_icmp .ge 25, 3) := by decide +kernel
theorem dX0_withLast_12 : decode cX0_withLast 12 = .ok (.aload_n 0, 1) := by decide +kernel
theorem dX0_withLast_13 : decode cX0_withLast 13 = .ok (.getfield 21, 3) := by decide +kernel
theorem dX0_withLast_16 : decode cX0_withLast 16 = .ok (.iload_n 3, 1) := by decide +kernel
theorem dX0_withLast_17 : decode cX0_withLast 17 = .ok (.iaload, 1) := by decide +kernel
theorem dX0_withLast_18 : decode cX0_withLast 18 = .ok (.bipush 10, 2) := by decide +kernel
theorem dX0_withLast_20 : decode cX0_withLast 20 = .ok (.irem, 1) := by decide +kernel
theorem dX0_withLast_21 : decode cX0_withLast 21 = .ok (.iload_n 1, 1) := by decide +kernel
theorem dX0_withLast_22 : decode cX0_withLast 22 = .ok (.if_icmp .ne 6, 3) := by decide +kernel
theorem dX0_withLast_25 : decode cX0_withLast 25 = .ok (.iinc 2 1, 3) := by decide +kernel
theorem dX0_withLast_28 : decode cX0_withLast 28 = .ok (.iinc 3 1, 3) := by decide +kernel
theorem dX0_withLast_31 : decode cX0_withLast 31 = .ok (.goto (-27), 3) := by decide +kernel
theorem dX0_withLast_34 : decode cX0_withLast 34 = .ok (.iload_n 2, 1) := by decide +kernel
theorem dX0_withLast_35 : decode cX0_withLast 35 = .ok (.ireturn, 1) := by decide +kernel
theorem dX0_unkind_0 : decode cX0_unkind 0 = .ok (.iconst 0, 1) := by decide +kernel
theorem dX0_unkind_1 : decode cX0_unkind 1 = .ok (.istore_n 1, 1) := by decide +kernel
theorem dX0_unkind_2 : decode cX0_unkind 2 = .ok (.iconst 0, 1) := by decide +kernel
theorem dX0_unkind_3 : decode cX0_unkind 3 = .ok (.istore_n 2, 1) := by decide +kernel
theorem dX0_unkind_4 : decode cX0_unkind 4 = .ok (.iload_n 2, 1) := by decide +kernel
theorem dX0_unkind_5 : decode cX0_unkind 5 = .ok (.aload_n 0, 1) := by decide +kernel
theorem dX0_unkind_6 : decode cX0_unkind 6 = .ok (.getfield 40, 3) := by decide +kernel
theorem dX0_unkind_9 : decode cX0_unkind 9 = .ok (.if_icmp .ge 24, 3) := by decide +kernel
theorem dX0_unkind_12 : decode cX0_unkind 12 = .ok (.aload_n 0, 1) := by decide +kernel
theorem dX0_unkind_13 : decode cX0_unkind 13 = .ok (.getfield 18, 3) := by decide +kernel
theorem dX0_unkind_16 : decode cX0_unkind 16 = .ok (.iload_n 2, 1) := by decide +kernel
theorem dX0_unkind_17 : decode cX0_unkind 17 = .ok (.iaload, 1) := by decide +kernel
theorem dX0_unkind_18 : decode cX0_unkind 18 = .ok (.invokestatic 45, 3) := by decide +kernel
theorem dX0_unkind_21 : decode cX0_unkind 21 = .ok (.ifCond .eq 6, 3) := by decide +kernel
theorem dX0_unkind_24 : decode cX0_unkind 24 = .ok (.iinc 1 1, 3) := by decide +kernel
theorem dX0_unkind_27 : decode cX0_unkind 27 = .ok (.iinc 2 1, 3) := by decide +kernel
theorem dX0_unkind_30 : decode cX0_unkind 30 = .ok (.goto (-26), 3) := by decide +kernel
theorem dX0_unkind_33 : decode cX0_unkind 33 = .ok (.iload_n 1, 1) := by decide +kernel
theorem dX0_unkind_34 : decode cX0_unkind 34 = .ok (.ireturn, 1) := by decide +kernel
theorem dX1_init_0 : decode cX1_init 0 = .ok (.aload_n 0, 1) := by decide +kernel
theorem dX1_init_1 : decode cX1_init 1 = .ok (.invokespecial 3, 3) := by decide +kernel
theorem dX1_init_4 : decode cX1_init 4 = .ok (.aload_n 0, 1) := by decide +kernel
theorem dX1_init_5 : decode cX1_init 5 = .ok (.bipush 16, 2) := by decide +kernel
theorem dX1_init_7 : decode cX1_init 7 = .ok (.newarray .int, 2) := by decide +kernel
theorem dX1_init_9 : decode cX1_init 9 = .ok (.putfield 9, 3) := by decide +kernel
theorem dX1_init_12 : decode cX1_init 12 = .ok (.aload_n 0, 1) := by decide +kernel
theorem dX1_init_13 : decode cX1_init 13 = .ok (.bipush 16, 2) := by decide +kernel
theorem dX1_init_15 : decode cX1_init 15 = .ok (.newarray .int, 2) := by decide +kernel
theorem dX1_init_17 : decode cX1_init 17 = .ok (.putfield 15, 3) := by decide +kernel
theorem dX1_init_20 : decode cX1_init 20 = .ok (.aload_n 0, 1) := by decide +kernel
theorem dX1_init_21 : decode cX1_init 21 = .ok (.bipush 16, 2) := by decide +kernel
theorem dX1_init_23 : decode cX1_init 23 = .ok (.newarray .int, 2) := by decide +kernel
theorem dX1_init_25 : decode cX1_init 25 = .ok (.putfield 18, 3) := by decide +kernel
theorem dX1_init_28 : decode cX1_init 28 = .ok (.aload_n 0, 1) := by decide +kernel
theorem dX1_init_29 : decode cX1_init 29 = .ok (.bipush 8, 2) := by decide +kernel
theorem dX1_init_31 : decode cX1_init 31 = .ok (.newarray .int, 2) := by decide +kernel
theorem dX1_init_33 : decode cX1_init 33 = .ok (.putfield 21, 3) := by decide +kernel
theorem dX1_init_36 : decode cX1_init 36 = .ok (.return_, 1) := by decide +kernel
theorem dX1_become_0 : decode cX1_become 0 = .ok (.aload_n 0, 1) := by decide +kernel
theorem dX1_become_1 : decode cX1_become 1 = .ok (.aload_n 1, 1) := by decide +kernel
theorem dX1_become_2 : decode cX1_become 2 = .ok (.getfield 24, 3) := by decide +kernel
theorem dX1_become_5 : decode cX1_become 5 = .ok (.putfield 24, 3) := by decide +kernel
theorem dX1_become_8 : decode cX1_become 8 = .ok (.aload_n 1, 1) := by decide +kernel
theorem dX1_become_9 : decode cX1_become 9 = .ok (.getfield 9, 3) := by decide +kernel
theorem dX1_become_12 : decode cX1_become 12 = .ok (.iconst 0, 1) := by decide +kernel
theorem dX1_become_13 : decode cX1_become 13 = .ok (.aload_n 0, 1) := by decide +kernel
theorem dX1_become_14 : decode cX1_become 14 = .ok (.getfield 9, 3) := by decide +kernel
theorem dX1_become_17 : decode cX1_become 17 = .ok (.iconst 0, 1) := by decide +kernel
theorem dX1_become_18 : decode cX1_become 18 = .ok (.bipush 16, 2) := by decide +kernel
theorem dX1_become_20 : decode cX1_become 20 = .ok (.invokestatic 28, 3) := by decide +kernel
theorem dX1_become_23 : decode cX1_become 23 = .ok (.aload_n 1, 1) := by decide +kernel
theorem dX1_become_24 : decode cX1_become 24 = .ok (.getfield 15, 3) := by decide +kernel
theorem dX1_become_27 : decode cX1_become 27 = .ok (.iconst 0, 1) := by decide +kernel
theorem dX1_become_28 : decode cX1_become 28 = .ok (.aload_n 0, 1) := by decide +kernel
theorem dX1_become_29 : decode cX1_become 29 = .ok (.getfield 15, 3) := by decide +kernel
theorem dX1_become_32 : decode cX1_become 32 = .ok (.iconst 0, 1) := by decide +kernel
theorem dX1_become_33 : decode cX1_become 33 = .ok (.bipush 16, 2) := by decide +kernel
theorem dX1_become_35 : decode cX1_become 35 = .ok (.invokestatic 28, 3) := by decide +kernel
theorem dX1_become_38 : decode cX1_become 38 = .ok (.aload_n 1, 1) := by decide +kernel
theorem dX1_become_39 : decode cX1_become 39 = .ok (.getfield 18, 3) := by decide +kernel
theorem dX1_become_42 : decode cX1_become 42 = .ok (.iconst 0, 1) := by decide +kernel
theorem dX1_become_43 : decode cX1_become 43 = .ok (.aload_n 0, 1) := by decide +kernel
theorem dX1_become_44 : decode cX1_become 44 = .ok (.getfield 18, 3) := by decide +kernel
theorem dX1_become_47 : decode cX1_become 47 = .ok (.iconst 0, 1) := by decide +kernel
theorem dX1_become_48 : decode cX1_become 48 = .ok (.bipush 16, 2) := by decide +kernel
theorem dX1_become_50 : decode cX1_become 50 = .ok (.invokestatic 28, 3) := by decide +kernel
theorem dX1_become_53 : decode cX1_become 53 = .ok (.aload_n 0, 1) := by decide +kernel
theorem dX1_become_54 : decode cX1_become 54 = .ok (.aload_n 1, 1) := by decide +kernel
theorem dX1_become_55 : decode cX1_become 55 = .ok (.getfield 34, 3) := by decide +kernel
theorem dX1_become_58 : decode cX1_become 58 = .ok (.putfield 34, 3) := by decide +kernel
theorem dX1_become_61 : decode cX1_become 61 = .ok (.aload_n 1, 1) := by decide +kernel
theorem dX1_become_62 : decode cX1_become 62 = .ok (.getfield 21, 3) := by decide +kernel
theorem dX1_become_65 : decode cX1_become 65 = .ok (.iconst 0, 1) := by decide +kernel
theorem dX1_become_66 : decode cX1_become 66 = .ok (.aload_n 0, 1) := by decide +kernel
theorem dX1_become_67 : decode cX1_become 67 = .ok (.getfield 21, 3) := by decide +kernel
theorem dX1_become_70 : decode cX1_become 70 = .ok (.iconst 0, 1) := by decide +kernel
theorem dX1_become_71 : decode cX1_become 71 = .ok (.bipush 8, 2) := by decide +kernel
theorem dX1_become_73 : decode cX1_become 73 = .ok (.invokestatic 28, 3) := by decide +kernel
theorem dX1_become_76 : decode cX1_become 76 = .ok (.return_, 1) := by decide +kernel
theorem dX1_addLeaner_0 : decode cX1_addLeaner 0 = .ok (.aload_n 0, 1) := by decide +kernel
theorem dX1_addLeaner_1 : decode cX1_addLeaner 1 = .ok (.getfield 24, 3) := by decide +kernel
theorem dX1_addLeaner_4 : decode cX1_addLeaner 4 = .ok (.bipush 16, 2) := by decide +kernel
theorem dX1_addLeaner_6 : decode cX1_addLeaner 6 = .ok (.if_icmp .lt 6, 3) := by decide +kernel
theorem dX1_addLeaner_9 : decode cX1_addLeaner 9 = .ok (.ldc 37, 2) := by decide +kernel
theorem dX1_addLeaner_11 : decode cX1_addLeaner 11 = .ok (.ireturn, 1) := by decide +kernel
theorem dX1_addLeaner_12 : decode cX1_addLeaner 12 = .ok (.aload_n 0, 1) := by decide +kernel
theorem dX1_addLeaner_13 : decode cX1_addLeaner 13 = .ok (.getfield 9, 3) := by decide +kernel
theorem dX1_addLeaner_16 : decode cX1_addLeaner 16 = .ok (.aload_n 0, 1) := by decide +kernel
theorem dX1_addLeaner_17 : decode cX1_addLeaner 17 = .ok (.getfield 24, 3) := by decide +kernel
theorem dX1_addLeaner_20 : decode cX1_addLeaner 20 = .ok (.iload_n 1, 1) := by decide +kernel
theorem dX1_addLeaner_21 : decode cX1_addLeaner 21 = .ok (.iastore, 1) := by decide +kernel
theorem dX1_addLeaner_22 : decode cX1_addLeaner 22 = .ok (.aload_n 0, 1) := by decide +kernel
theorem dX1_addLeaner_23 : decode cX1_addLeaner 23 = .ok (.getfield 15, 3) := by decide +kernel
theorem dX1_addLeaner_26 : decode cX1_addLeaner 26 = .ok (.aload_n 0, 1) := by decide +kernel
theorem dX1_addLeaner_27 : decode cX1_addLeaner 27 = .ok (.getfield 24, 3) := by decide +kernel
theorem dX1_addLeaner_30 : decode cX1_addLeaner 30 = .ok (.iload_n 2, 1) := by decide +kernel
theorem dX1_addLeaner_31 : decode cX1_addLeaner 31 = .ok (.iastore, 1) := by decide +kernel
theorem dX1_addLeaner_32 : decode cX1_addLeaner 32 = .ok (.aload_n 0, 1) := by decide +kernel
theorem dX1_addLeaner_33 : decode cX1_addLeaner 33 = .ok (.getfield 18, 3) := by decide +kernel
theorem dX1_addLeaner_36 : decode cX1_addLeaner 36 = .ok (.aload_n 0, 1) := by decide +kernel
theorem dX1_addLeaner_37 : decode cX1_addLeaner 37 = .ok (.getfield 24, 3) := by decide +kernel
theorem dX1_addLeaner_40 : decode cX1_addLeaner 40 = .ok (.iload_n 3, 1) := by decide +kernel
theorem dX1_addLeaner_41 : decode cX1_addLeaner 41 = .ok (.iastore, 1) := by decide +kernel
theorem dX1_addLeaner_42 : decode cX1_addLeaner 42 = .ok (.aload_n 0, 1) := by decide +kernel
theorem dX1_addLeaner_43 : decode cX1_addLeaner 43 = .ok (.dup, 1) := by decide +kernel
theorem dX1_addLeaner_44 : decode cX1_addLeaner 44 = .ok (.getfield 24, 3) := by decide +kernel
theorem dX1_addLeaner_47 : decode cX1_addLeaner 47 = .ok (.iconst 1, 1) := by decide +kernel
theorem dX1_addLeaner_48 : decode cX1_addLeaner 48 = .ok (.iadd, 1) := by decide +kernel
theorem dX1_addLeaner_49 : decode cX1_addLeaner 49 = .ok (.putfield 24, 3) := by decide +kernel
theorem dX1_addLeaner_52 : decode cX1_addLeaner 52 = .ok (.aload_n 0, 1) := by decide +kernel
theorem dX1_addLeaner_53 : decode cX1_addLeaner 53 = .ok (.getfield 24, 3) := by decide +kernel
theorem dX1_addLeaner_56 : decode cX1_addLeaner 56 = .ok (.iconst 1, 1) := by decide +kernel
theorem dX1_addLeaner_57 : decode cX1_addLeaner 57 = .ok (.isub, 1) := by decide +kernel
theorem dX1_addLeaner_58 : decode cX1_addLeaner 58 = .ok (.ireturn, 1) := by decide +kernel
theorem dX1_fallen_0 : decode cX1_fallen 0 = .ok (.iconst 0, 1) := by decide +kernel
theorem dX1_fallen_1 : decode cX1_fallen 1 = .ok (.istore_n 2, 1) := by decide +kernel
theorem dX1_fallen_2 : decode cX1_fallen 2 = .ok (.iconst 0, 1) := by decide +kernel
theorem dX1_fallen_3 : decode cX1_fallen 3 = .ok (.istore_n 3, 1) := by decide +kernel
theorem dX1_fallen_4 : decode cX1_fallen 4 = .ok (.iload_n 3, 1) := by decide +kernel
theorem dX1_fallen_5 : decode cX1_fallen 5 = .ok (.aload_n 0, 1) := by decide +kernel
theorem dX1_fallen_6 : decode cX1_fallen 6 = .ok (.getfield 24, 3) := by decide +kernel
theorem dX1_fallen_9 : decode cX1_fallen 9 = .ok (.if_icmp .ge 55, 3) := by decide +kernel
theorem dX1_fallen_12 : decode cX1_fallen 12 = .ok (.aload_n 0, 1) := by decide +kernel
theorem dX1_fallen_13 : decode cX1_fallen 13 = .ok (.getfield 9, 3) := by decide +kernel
theorem dX1_fallen_16 : decode cX1_fallen 16 = .ok (.iload_n 3, 1) := by decide +kernel
theorem dX1_fallen_17 : decode cX1_fallen 17 = .ok (.iaload, 1) := by decide +kernel
theorem dX1_fallen_18 : decode cX1_fallen 18 = .ok (.iload_n 1, 1) := by decide +kernel
theorem dX1_fallen_19 : decode cX1_fallen 19 = .ok (.iconst (-1), 1) := by decide +kernel
theorem dX1_fallen_20 : decode cX1_fallen 20 = .ok (.ixor, 1) := by decide +kernel
theorem dX1_fallen_21 : decode cX1_fallen 21 = .ok (.iand, 1) := by decide +kernel
theorem dX1_fallen_22 : decode cX1_fallen 22 = .ok (.invokestatic 38, 3) := by decide +kernel
theorem dX1_fallen_25 : decode cX1_fallen 25 = .ok (.aload_n 0, 1) := by decide +kernel
theorem dX1_fallen_26 : decode cX1_fallen 26 = .ok (.getfield 15, 3) := by decide +kernel
theorem dX1_fallen_29 : decode cX1_fallen 29 = .ok (.iload_n 3, 1) := by decide +kernel
theorem dX1_fallen_30 : decode cX1_fallen 30 = .ok (.iaload, 1) := by decide +kernel
theorem dX1_fallen_31 : decode cX1_fallen 31 = .ok (.iload_n 2, 1) := by decide +kernel
theorem dX1_fallen_32 : decode cX1_fallen 32 = .ok (.iconst (-1), 1) := by decide +kernel
theorem dX1_fallen_33 : decode cX1_fallen 33 = .ok (.ixor, 1) := by decide +kernel
theorem dX1_fallen_34 : decode cX1_fallen 34 = .ok (.iand, 1) := by decide +kernel
theorem dX1_fallen_35 : decode cX1_fallen 35 = .ok (.invokestatic 38, 3) := by decide +kernel
theorem dX1_fallen_38 : decode cX1_fallen 38 = .ok (.iadd, 1) := by decide +kernel
theorem dX1_fallen_39 : decode cX1_fallen 39 = .ok (.istore 4, 2) := by decide +kernel
theorem dX1_fallen_41 : decode cX1_fallen 41 = .ok (.iload 4, 2) := by decide +kernel
theorem dX1_fallen_43 : decode cX1_fallen 43 = .ok (.aload_n 0, 1) := by decide +kernel
theorem dX1_fallen_44 : decode cX1_fallen 44 = .ok (.getfield 18, 3) := by decide +kernel
theorem dX1_fallen_47 : decode cX1_fallen 47 = .ok (.iload_n 3, 1) := by decide +kernel
theorem dX1_fallen_48 : decode cX1_fallen 48 = .ok (.iaload, 1) := by decide +kernel
theorem dX1_fallen_49 : decode cX1_fallen 49 = .ok (.if_icmp .ge 9, 3) := by decide +kernel
theorem dX1_fallen_52 : decode cX1_fallen 52 = .ok (.iload_n 2, 1) := by decide +kernel
theorem dX1_fallen_53 : decode cX1_fallen 53 = .ok (.iconst 1, 1) := by decide +kernel
theorem dX1_fallen_54 : decode cX1_fallen 54 = .ok (.iload_n 3, 1) := by decide +kernel
theorem dX1_fallen_55 : decode cX1_fallen 55 = .ok (.ishl, 1) := by decide +kernel
theorem dX1_fallen_56 : decode cX1_fallen 56 = .ok (.ior, 1) := by decide +kernel
theorem dX1_fallen_57 : decode cX1_fallen 57 = .ok (.istore_n 2, 1) := by decide +kernel
theorem dX1_fallen_58 : decode cX1_fallen 58 = .ok (.iinc 3 1, 3) := by decide +kernel
theorem dX1_fallen_61 : decode cX1_fallen 61 = .ok (.goto (-57), 3) := by decide +kernel
theorem dX1_fallen_64 : decode cX1_fallen 64 = .ok (.iload_n 2, 1) := by decide +kernel
theorem dX1_fallen_65 : decode cX1_fallen 65 = .ok (.ireturn, 1) := by decide +kernel
theorem dX1_addSource_0 : decode cX1_addSource 0 = .ok (.aload_n 0, 1) := by decide +kernel
theorem dX1_addSource_1 : decode cX1_addSource 1 = .ok (.getfield 34, 3) := by decide +kernel
theorem dX1_addSource_4 : decode cX1_addSource 4 = .ok (.bipush 8, 2) := by decide +kernel
theorem dX1_addSource_6 : decode cX1_addSource 6 = .ok (.if_icmp .lt 6, 3) := by decide +kernel
theorem dX1_addSource_9 : decode cX1_addSource 9 = .ok (.ldc 37, 2) := by decide +kernel
theorem dX1_addSource_11 : decode cX1_addSource 11 = .ok (.ireturn, 1) := by decide +kernel
theorem dX1_addSource_12 : decode cX1_addSource 12 = .ok (.aload_n 0, 1) := by decide +kernel
theorem dX1_addSource_13 : decode cX1_addSource 13 = .ok (.getfield 21, 3) := by decide +kernel
theorem dX1_addSource_16 : decode cX1_addSource 16 = .ok (.aload_n 0, 1) := by decide +kernel
theorem dX1_addSource_17 : decode cX1_addSource 17 = .ok (.getfield 34, 3) := by decide +kernel
theorem dX1_addSource_20 : decode cX1_addSource 20 = .ok (.iload_n 1, 1) := by decide +kernel
theorem dX1_addSource_21 : decode cX1_addSource 21 = .ok (.iastore, 1) := by decide +kernel
theorem dX1_addSource_22 : decode cX1_addSource 22 = .ok (.aload_n 0, 1) := by decide +kernel
theorem dX1_addSource_23 : decode cX1_addSource 23 = .ok (.dup, 1) := by decide +kernel
theorem dX1_addSource_24 : decode cX1_addSource 24 = .ok (.getfield 34, 3) := by decide +kernel
theorem dX1_addSource_27 : decode cX1_addSource 27 = .ok (.iconst 1, 1) := by decide +kernel
theorem dX1_addSource_28 : decode cX1_addSource 28 = .ok (.iadd, 1) := by decide +kernel
theorem dX1_addSource_29 : decode cX1_addSource 29 = .ok (.putfield 34, 3) := by decide +kernel
theorem dX1_addSource_32 : decode cX1_addSource 32 = .ok (.aload_n 0, 1) := by decide +kernel
theorem dX1_addSource_33 : decode cX1_addSource 33 = .ok (.getfield 34, 3) := by decide +kernel
theorem dX1_addSource_36 : decode cX1_addSource 36 = .ok (.iconst 1, 1) := by decide +kernel
theorem dX1_addSource_37 : decode cX1_addSource 37 = .ok (.isub, 1) := by decide +kernel
theorem dX1_addSource_38 : decode cX1_addSource 38 = .ok (.ireturn, 1) := by decide +kernel
theorem dX1_agreeing_0 : decode cX1_agreeing 0 = .ok (.iconst 0, 1) := by decide +kernel
theorem dX1_agreeing_1 : decode cX1_agreeing 1 = .ok (.istore 4, 2) := by decide +kernel
theorem dX1_agreeing_3 : decode cX1_agreeing 3 = .ok (.iconst 0, 1) := by decide +kernel
theorem dX1_agreeing_4 : decode cX1_agreeing 4 = .ok (.istore 5, 2) := by decide +kernel
theorem dX1_agreeing_6 : decode cX1_agreeing 6 = .ok (.iload 5, 2) := by decide +kernel
theorem dX1_agreeing_8 : decode cX1_agreeing 8 = .ok (.bipush 8, 2) := by decide +kernel
theorem dX1_agreeing_10 : decode cX1_agreeing 10 = .ok (.if_icmp .ge 57, 3) := by decide +kernel
theorem dX1_agreeing_13 : decode cX1_agreeing 13 = .ok (.iload_n 1, 1) := by decide +kernel
theorem dX1_agreeing_14 : decode cX1_agreeing 14 = .ok (.iload 5, 2) := by decide +kernel
theorem dX1_agreeing_16 : decode cX1_agreeing 16 = .ok (.ishr, 1) := by decide +kernel
theorem dX1_agreeing_17 : decode cX1_agreeing 17 = .ok (.iconst 1, 1) := by decide +kernel
theorem dX1_agreeing_18 : decode cX1_agreeing 18 = .ok (.iand, 1) := by decide +kernel
theorem dX1_agreeing_19 : decode cX1_agreeing 19 = .ok (.iconst 1, 1) := by decide +kernel
theorem dX1_agreeing_20 : decode cX1_agreeing 20 = .ok (.if_icmp .ne 7, 3) := by decide +kernel
theorem dX1_agreeing_23 : decode cX1_agreeing 23 = .ok (.iconst 1, 1) := by decide +kernel
theorem dX1_agreeing_24 : decode cX1_agreeing 24 = .ok (.goto 4, 3) := by decide +kernel
theorem dX1_agreeing_27 : decode cX1_agreeing 27 = .ok (.iconst 0, 1) := by decide +kernel
theorem dX1_agreeing_28 : decode cX1_agreeing 28 = .ok (.istore 6, 2) := by decide +kernel
theorem dX1_agreeing_30 : decode cX1_agreeing 30 = .ok (.iload 6, 2) := by decide +kernel
theorem dX1_agreeing_32 : decode cX1_agreeing 32 = .ok (.ifCond .eq 29, 3) := by decide +kernel
theorem dX1_agreeing_35 : decode cX1_agreeing 35 = .ok (.aload_n 0, 1) := by decide +kernel
theorem dX1_agreeing_36 : decode cX1_agreeing 36 = .ok (.getfield 21, 3) := by decide +kernel
theorem dX1_agreeing_39 : decode cX1_agreeing 39 = .ok (.iload_n 2, 1) := by decide +kernel
theorem dX1_agreeing_40 : decode cX1_agreeing 40 = .ok (.iaload, 1) := by decide +kernel
theorem dX1_agreeing_41 : decode cX1_agreeing 41 = .ok (.iconst 2, 1) := by decide +kernel
theorem dX1_agreeing_42 : decode cX1_agreeing 42 = .ok (.iload 5, 2) := by decide +kernel
theorem dX1_agreeing_44 : decode cX1_agreeing 44 = .ok (.imul, 1) := by decide +kernel
theorem dX1_agreeing_45 : decode cX1_agreeing 45 = .ok (.ishr, 1) := by decide +kernel
theorem dX1_agreeing_46 : decode cX1_agreeing 46 = .ok (.iconst 3, 1) := by decide +kernel
theorem dX1_agreeing_47 : decode cX1_agreeing 47 = .ok (.iand, 1) := by decide +kernel
theorem dX1_agreeing_48 : decode cX1_agreeing 48 = .ok (.iload_n 3, 1) := by decide +kernel
theorem dX1_agreeing_49 : decode cX1_agreeing 49 = .ok (.if_icmp .ne 12, 3) := by decide +kernel
theorem dX1_agreeing_52 : decode cX1_agreeing 52 = .ok (.iload 4, 2) := by decide +kernel
theorem dX1_agreeing_54 : decode cX1_agreeing 54 = .ok (.iconst 1, 1) := by decide +kernel
theorem dX1_agreeing_55 : decode cX1_agreeing 55 = .ok (.iload 5, 2) := by decide +kernel
theorem dX1_agreeing_57 : decode cX1_agreeing 57 = .ok (.ishl, 1) := by decide +kernel
theorem dX1_agreeing_58 : decode cX1_agreeing 58 = .ok (.ior, 1) := by decide +kernel
theorem dX1_agreeing_59 : decode cX1_agreeing 59 = .ok (.istore 4, 2) := by decide +kernel
theorem dX1_agreeing_61 : decode cX1_agreeing 61 = .ok (.iinc 5 1, 3) := by decide +kernel
theorem dX1_agreeing_64 : decode cX1_agreeing 64 = .ok (.goto (-58), 3) := by decide +kernel
theorem dX1_agreeing_67 : decode cX1_agreeing 67 = .ok (.iload 4, 2) := by decide +kernel
theorem dX1_agreeing_69 : decode cX1_agreeing 69 = .ok (.ireturn, 1) := by decide +kernel
theorem dX1_mostLeft_0 : decode cX1_mostLeft 0 = .ok (.iconst 0, 1) := by decide +kernel
theorem dX1_mostLeft_1 : decode cX1_mostLeft 1 = .ok (.istore_n 3, 1) := by decide +kernel
theorem dX1_mostLeft_2 : decode cX1_mostLeft 2 = .ok (.iconst 0, 1) := by decide +kernel
theorem dX1_mostLeft_3 : decode cX1_mostLeft 3 = .ok (.istore 4, 2) := by decide +kernel
theorem dX1_mostLeft_5 : decode cX1_mostLeft 5 = .ok (.iload 4, 2) := by decide +kernel
theorem dX1_mostLeft_7 : decode cX1_mostLeft 7 = .ok (.iconst 4, 1) := by decide +kernel
theorem dX1_mostLeft_8 : decode cX1_mostLeft 8 = .ok (.if_icmp .ge 25, 3) := by decide +kernel
theorem dX1_mostLeft_11 : decode cX1_mostLeft 11 = .ok (.iload_n 3, 1) := by decide +kernel
theorem dX1_mostLeft_12 : decode cX1_mostLeft 12 = .ok (.aload_n 0, 1) := by decide +kernel
theorem dX1_mostLeft_13 : decode cX1_mostLeft 13 = .ok (.iload_n 1, 1) := by decide +kernel
theorem dX1_mostLeft_14 : decode cX1_mostLeft 14 = .ok (.iload_n 2, 1) := by decide +kernel
theorem dX1_mostLeft_15 : decode cX1_mostLeft 15 = .ok (.iload 4, 2) := by decide +kernel
theorem dX1_mostLeft_17 : decode cX1_mostLeft 17 = .ok (.invokevirtual 44, 3) := by decide +kernel
theorem dX1_mostLeft_20 : decode cX1_mostLeft 20 = .ok (.invokestatic 38, 3) := by decide +kernel
theorem dX1_mostLeft_23 : decode cX1_mostLeft 23 = .ok (.invokestatic 48, 3) := by decide +kernel
theorem dX1_mostLeft_26 : decode cX1_mostLeft 26 = .ok (.istore_n 3, 1) := by decide +kernel
theorem dX1_mostLeft_27 : decode cX1_mostLeft 27 = .ok (.iinc 4 1, 3) := by decide +kernel
theorem dX1_mostLeft_30 : decode cX1_mostLeft 30 = .ok (.goto (-25), 3) := by decide +kernel
theorem dX1_mostLeft_33 : decode cX1_mostLeft 33 = .ok (.iload_n 3, 1) := by decide +kernel
theorem dX1_mostLeft_34 : decode cX1_mostLeft 34 = .ok (.ireturn, 1) := by decide +kernel
theorem dX1_bestSource_0 : decode cX1_bestSource 0 = .ok (.ldc 54, 2) := by decide +kernel
theorem dX1_bestSource_2 : decode cX1_bestSource 2 = .ok (.istore_n 2, 1) := by decide +kernel
theorem dX1_bestSource_3 : decode cX1_bestSource 3 = .ok (.bipush 9, 2) := by decide +kernel
theorem dX1_bestSource_5 : decode cX1_bestSource 5 = .ok (.istore_n 3, 1) := by decide +kernel
theorem dX1_bestSource_6 : decode cX1_bestSource 6 = .ok (.iconst 0, 1) := by decide +kernel
theorem dX1_bestSource_7 : decode cX1_bestSource 7 = .ok (.istore 4, 2) := by decide +kernel
theorem dX1_bestSource_9 : decode cX1_bestSource 9 = .ok (.iload 4, 2) := by decide +kernel
theorem dX1_bestSource_11 : decode cX1_bestSource 11 = .ok (.aload_n 0, 1) := by decide +kernel
theorem dX1_bestSource_12 : decode cX1_bestSource 12 = .ok (.getfield 34, 3) := by decide +kernel
theorem dX1_bestSource_15 : decode cX1_bestSource 15 = .ok (.if_icmp .ge 30, 3) := by decide +kernel
theorem dX1_bestSource_18 : decode cX1_bestSource 18 = .ok (.aload_n 0, 1) := by decide +kernel
theorem dX1_bestSource_19 : decode cX1_bestSource 19 = .ok (.iload_n 1, 1) := by decide +kernel
theorem dX1_bestSource_20 : decode cX1_bestSource 20 = .ok (.iload 4, 2) := by decide +kernel
theorem dX1_bestSource_22 : decode cX1_bestSource 22 = .ok (.invokevirtual 55, 3) := by decide +kernel
theorem dX1_bestSource_25 : decode cX1_bestSource 25 = .ok (.istore 5, 2) := by decide +kernel
theorem dX1_bestSource_27 : decode cX1_bestSource 27 = .ok (.iload 5, 2) := by decide +kernel
theorem dX1_bestSource_29 : decode cX1_bestSource 29 = .ok (.iload_n 3, 1) := by decide +kernel
theorem dX1_bestSource_30 : decode cX1_bestSource 30 = .ok (.if_icmp .ge 9, 3) := by decide +kernel
theorem dX1_bestSource_33 : decode cX1_bestSource 33 = .ok (.iload 5, 2) := by decide +kernel
theorem dX1_bestSource_35 : decode cX1_bestSource 35 = .ok (.istore_n 3, 1) := by decide +kernel
theorem dX1_bestSource_36 : decode cX1_bestSource 36 = .ok (.iload 4, 2) := by decide +kernel
theorem dX1_bestSource_38 : decode cX1_bestSource 38 = .ok (.istore_n 2, 1) := by decide +kernel
theorem dX1_bestSource_39 : decode cX1_bestSource 39 = .ok (.iinc 4 1, 3) := by decide +kernel
theorem dX1_bestSource_42 : decode cX1_bestSource 42 = .ok (.goto (-33), 3) := by decide +kernel
theorem dX1_bestSource_45 : decode cX1_bestSource 45 = .ok (.iload_n 2, 1) := by decide +kernel
theorem dX1_bestSource_46 : decode cX1_bestSource 46 = .ok (.ireturn, 1) := by decide +kernel
theorem dX2_init_0 : decode cX2_init 0 = .ok (.aload_n 0, 1) := by decide +kernel
theorem dX2_init_1 : decode cX2_init 1 = .ok (.invokespecial 3, 3) := by decide +kernel
theorem dX2_init_4 : decode cX2_init 4 = .ok (.aload_n 0, 1) := by decide +kernel
theorem dX2_init_5 : decode cX2_init 5 = .ok (.bipush 36, 2) := by decide +kernel
theorem dX2_init_7 : decode cX2_init 7 = .ok (.newarray .int, 2) := by decide +kernel
theorem dX2_init_9 : decode cX2_init 9 = .ok (.putfield 9, 3) := by decide +kernel
theorem dX2_init_12 : decode cX2_init 12 = .ok (.aload_n 0, 1) := by decide +kernel
theorem dX2_init_13 : decode cX2_init 13 = .ok (.bipush 20, 2) := by decide +kernel
theorem dX2_init_15 : decode cX2_init 15 = .ok (.newarray .int, 2) := by decide +kernel
theorem dX2_init_17 : decode cX2_init 17 = .ok (.putfield 15, 3) := by decide +kernel
theorem dX2_init_20 : decode cX2_init 20 = .ok (.aload_n 0, 1) := by decide +kernel
theorem dX2_init_21 : decode cX2_init 21 = .ok (.bipush 20, 2) := by decide +kernel
theorem dX2_init_23 : decode cX2_init 23 = .ok (.newarray .int, 2) := by decide +kernel
theorem dX2_init_25 : decode cX2_init 25 = .ok (.putfield 18, 3) := by decide +kernel
theorem dX2_init_28 : decode cX2_init 28 = .ok (.aload_n 0, 1) := by decide +kernel
theorem dX2_init_29 : decode cX2_init 29 = .ok (.bipush 6, 2) := by decide +kernel
theorem dX2_init_31 : decode cX2_init 31 = .ok (.newarray .int, 2) := by decide +kernel
theorem dX2_init_33 : decode cX2_init 33 = .ok (.putfield 21, 3) := by decide +kernel
theorem dX2_init_36 : decode cX2_init 36 = .ok (.return_, 1) := by decide +kernel
theorem dX2_become_0 : decode cX2_become 0 = .ok (.aload_n 1, 1) := by decide +kernel
theorem dX2_become_1 : decode cX2_become 1 = .ok (.getfield 9, 3) := by decide +kernel
theorem dX2_become_4 : decode cX2_become 4 = .ok (.iconst 0, 1) := by decide +kernel
theorem dX2_become_5 : decode cX2_become 5 = .ok (.aload_n 0, 1) := by decide +kernel
theorem dX2_become_6 : decode cX2_become 6 = .ok (.getfield 9, 3) := by decide +kernel
theorem dX2_become_9 : decode cX2_become 9 = .ok (.iconst 0, 1) := by decide +kernel
theorem dX2_become_10 : decode cX2_become 10 = .ok (.bipush 36, 2) := by decide +kernel
theorem dX2_become_12 : decode cX2_become 12 = .ok (.invokestatic 24, 3) := by decide +kernel
theorem dX2_become_15 : decode cX2_become 15 = .ok (.aload_n 0, 1) := by decide +kernel
theorem dX2_become_16 : decode cX2_become 16 = .ok (.aload_n 1, 1) := by decide +kernel
theorem dX2_become_17 : decode cX2_become 17 = .ok (.getfield 30, 3) := by decide +kernel
theorem dX2_become_20 : decode cX2_become 20 = .ok (.putfield 30, 3) := by decide +kernel
theorem dX2_become_23 : decode cX2_become 23 = .ok (.aload_n 1, 1) := by decide +kernel
theorem dX2_become_24 : decode cX2_become 24 = .ok (.getfield 15, 3) := by decide +kernel
theorem dX2_become_27 : decode cX2_become 27 = .ok (.iconst 0, 1) := by decide +kernel
theorem dX2_become_28 : decode cX2_become 28 = .ok (.aload_n 0, 1) := by decide +kernel
theorem dX2_become_29 : decode cX2_become 29 = .ok (.getfield 15, 3) := by decide +kernel
theorem dX2_become_32 : decode cX2_become 32 = .ok (.iconst 0, 1) := by decide +kernel
theorem dX2_become_33 : decode cX2_become 33 = .ok (.bipush 20, 2) := by decide +kernel
theorem dX2_become_35 : decode cX2_become 35 = .ok (.invokestatic 24, 3) := by decide +kernel
theorem dX2_become_38 : decode cX2_become 38 = .ok (.aload_n 1, 1) := by decide +kernel
theorem dX2_become_39 : decode cX2_become 39 = .ok (.getfield 18, 3) := by decide +kernel
theorem dX2_become_42 : decode cX2_become 42 = .ok (.iconst 0, 1) := by decide +kernel
theorem dX2_become_43 : decode cX2_become 43 = .ok (.aload_n 0, 1) := by decide +kernel
theorem dX2_become_44 : decode cX2_become 44 = .ok (.getfield 18, 3) := by decide +kernel
theorem dX2_become_47 : decode cX2_become 47 = .ok (.iconst 0, 1) := by decide +kernel
theorem dX2_become_48 : decode cX2_become 48 = .ok (.bipush 20, 2) := by decide +kernel
theorem dX2_become_50 : decode cX2_become 50 = .ok (.invokestatic 24, 3) := by decide +kernel
theorem dX2_become_53 : decode cX2_become 53 = .ok (.return_, 1) := by decide +kernel
theorem dX2_setRoad_0 : decode cX2_setRoad 0 = .ok (.aload_n 0, 1) := by decide +kernel
theorem dX2_setRoad_1 : decode cX2_setRoad 1 = .ok (.getfield 9, 3) := by decide +kernel
theorem dX2_setRoad_4 : decode cX2_setRoad 4 = .ok (.iload_n 1, 1) := by decide +kernel
theorem dX2_setRoad_5 : decode cX2_setRoad 5 = .ok (.bipush 6, 2) := by decide +kernel
theorem dX2_setRoad_7 : decode cX2_setRoad 7 = .ok (.imul, 1) := by decide +kernel
theorem dX2_setRoad_8 : decode cX2_setRoad 8 = .ok (.iload_n 2, 1) := by decide +kernel
theorem dX2_setRoad_9 : decode cX2_setRoad 9 = .ok (.iadd, 1) := by decide +kernel
theorem dX2_setRoad_10 : decode cX2_setRoad 10 = .ok (.iaload, 1) := by decide +kernel
theorem dX2_setRoad_11 : decode cX2_setRoad 11 = .ok (.istore 4, 2) := by decide +kernel
theorem dX2_setRoad_13 : decode cX2_setRoad 13 = .ok (.aload_n 0, 1) := by decide +kernel
theorem dX2_setRoad_14 : decode cX2_setRoad 14 = .ok (.getfield 9, 3) := by decide +kernel
theorem dX2_setRoad_17 : decode cX2_setRoad 17 = .ok (.iload_n 1, 1) := by decide +kernel
theorem dX2_setRoad_18 : decode cX2_setRoad 18 = .ok (.bipush 6, 2) := by decide +kernel
theorem dX2_setRoad_20 : decode cX2_setRoad 20 = .ok (.imul, 1) := by decide +kernel
theorem dX2_setRoad_21 : decode cX2_setRoad 21 = .ok (.iload_n 2, 1) := by decide +kernel
theorem dX2_setRoad_22 : decode cX2_setRoad 22 = .ok (.iadd, 1) := by decide +kernel
theorem dX2_setRoad_23 : decode cX2_setRoad 23 = .ok (.iload_n 3, 1) := by decide +kernel
theorem dX2_setRoad_24 : decode cX2_setRoad 24 = .ok (.iastore, 1) := by decide +kernel
theorem dX2_setRoad_25 : decode cX2_setRoad 25 = .ok (.aload_n 0, 1) := by decide +kernel
theorem dX2_setRoad_26 : decode cX2_setRoad 26 = .ok (.getfield 9, 3) := by decide +kernel
theorem dX2_setRoad_29 : decode cX2_setRoad 29 = .ok (.iload_n 2, 1) := by decide +kernel
theorem dX2_setRoad_30 : decode cX2_setRoad 30 = .ok (.bipush 6, 2) := by decide +kernel
theorem dX2_setRoad_32 : decode cX2_setRoad 32 = .ok (.imul, 1) := by decide +kernel
theorem dX2_setRoad_33 : decode cX2_setRoad 33 = .ok (.iload_n 1, 1) := by decide +kernel
theorem dX2_setRoad_34 : decode cX2_setRoad 34 = .ok (.iadd, 1) := by decide +kernel
theorem dX2_setRoad_35 : decode cX2_setRoad 35 = .ok (.iload_n 3, 1) := by decide +kernel
theorem dX2_setRoad_36 : decode cX2_setRoad 36 = .ok (.iastore, 1) := by decide +kernel
theorem dX2_setRoad_37 : decode cX2_setRoad 37 = .ok (.iload 4, 2) := by decide +kernel
theorem dX2_setRoad_39 : decode cX2_setRoad 39 = .ok (.ireturn, 1) := by decide +kernel
theorem dX2_leastDays_0 : decode cX2_leastDays 0 = .ok (.iconst 0, 1) := by decide +kernel
theorem dX2_leastDays_1 : decode cX2_leastDays 1 = .ok (.istore_n 3, 1) := by decide +kernel
theorem dX2_leastDays_2 : decode cX2_leastDays 2 = .ok (.iload_n 3, 1) := by decide +kernel
theorem dX2_leastDays_3 : decode cX2_leastDays 3 = .ok (.bipush 6, 2) := by decide +kernel
theorem dX2_leastDays_5 : decode cX2_leastDays 5 = .ok (.if_icmp .ge 26, 3) := by decide +kernel
theorem dX2_leastDays_8 : decode cX2_leastDays 8 = .ok (.aload_n 0, 1) := by decide +kernel
theorem dX2_leastDays_9 : decode cX2_leastDays 9 = .ok (.getfield 21, 3) := by decide +kernel
theorem dX2_leastDays_12 : decode cX2_leastDays 12 = .ok (.iload_n 3, 1) := by decide +kernel
theorem dX2_leastDays_13 : decode cX2_leastDays 13 = .ok (.iload_n 3, 1) := by decide +kernel
theorem dX2_leastDays_14 : decode cX2_leastDays 14 = .ok (.iload_n 1, 1) := by decide +kernel
theorem dX2_leastDays_15 : decode cX2_leastDays 15 = .ok (.if_icmp .ne 7, 3) := by decide +kernel
theorem dX2_leastDays_18 : decode cX2_leastDays 18 = .ok (.iconst 0, 1) := by decide +kernel
theorem dX2_leastDays_19 : decode cX2_leastDays 19 = .ok (.goto 5, 3) := by decide +kernel
theorem dX2_leastDays_22 : decode cX2_leastDays 22 = .ok (.ldc 34, 2) := by decide +kernel
theorem dX2_leastDays_24 : decode cX2_leastDays 24 = .ok (.iastore, 1) := by decide +kernel
theorem dX2_leastDays_25 : decode cX2_leastDays 25 = .ok (.iinc 3 1, 3) := by decide +kernel
theorem dX2_leastDays_28 : decode cX2_leastDays 28 = .ok (.goto (-26), 3) := by decide +kernel
theorem dX2_leastDays_31 : decode cX2_leastDays 31 = .ok (.iconst 1, 1) := by decide +kernel
theorem dX2_leastDays_32 : decode cX2_leastDays 32 = .ok (.istore_n 3, 1) := by decide +kernel
theorem dX2_leastDays_33 : decode cX2_leastDays 33 = .ok (.iload_n 3, 1) := by decide +kernel
theorem dX2_leastDays_34 : decode cX2_leastDays 34 = .ok (.bipush 6, 2) := by decide +kernel
theorem dX2_leastDays_36 : decode cX2_leastDays 36 = .ok (.if_icmp .ge 13, 3) := by decide +kernel
theorem dX2_leastDays_39 : decode cX2_leastDays 39 = .ok (.aload_n 0, 1) := by decide +kernel
theorem dX2_leastDays_40 : decode cX2_leastDays 40 = .ok (.invokevirtual 35, 3) := by decide +kernel
theorem dX2_leastDays_43 : decode cX2_leastDays 43 = .ok (.iinc 3 1, 3) := by decide +kernel
theorem dX2_leastDays_46 : decode cX2_leastDays 46 = .ok (.goto (-13), 3) := by decide +kernel
theorem dX2_leastDays_49 : decode cX2_leastDays 49 = .ok (.aload_n 0, 1) := by decide +kernel
theorem dX2_leastDays_50 : decode cX2_leastDays 50 = .ok (.getfield 21, 3) := by decide +kernel
theorem dX2_leastDays_53 : decode cX2_leastDays 53 = .ok (.iload_n 2, 1) := by decide +kernel
theorem dX2_leastDays_54 : decode cX2_leastDays 54 = .ok (.iaload, 1) := by decide +kernel
theorem dX2_leastDays_55 : decode cX2_leastDays 55 = .ok (.ldc 34, 2) := by decide +kernel
theorem dX2_leastDays_57 : decode cX2_leastDays 57 = .ok (.if_icmp .lt 8, 3) := by decide +kernel
theorem dX2_leastDays_60 : decode cX2_leastDays 60 = .ok (.ldc 38, 2) := by decide +kernel
theorem dX2_leastDays_62 : decode cX2_leastDays 62 = .ok (.goto 9, 3) := by decide +kernel
theorem dX2_leastDays_65 : decode cX2_leastDays 65 = .ok (.aload_n 0, 1) := by decide +kernel
theorem dX2_leastDays_66 : decode cX2_leastDays 66 = .ok (.getfield 21, 3) := by decide +kernel
theorem dX2_leastDays_69 : decode cX2_leastDays 69 = .ok (.iload_n 2, 1) := by decide +kernel
theorem dX2_leastDays_70 : decode cX2_leastDays 70 = .ok (.iaload, 1) := by decide +kernel
theorem dX2_leastDays_71 : decode cX2_leastDays 71 = .ok (.ireturn, 1) := by decide +kernel
theorem dX2_goOneRoadOn_0 : decode cX2_goOneRoadOn 0 = .ok (.iconst 0, 1) := by decide +kernel
theorem dX2_goOneRoadOn_1 : decode cX2_goOneRoadOn 1 = .ok (.istore_n 1, 1) := by decide +kernel
theorem dX2_goOneRoadOn_2 : decode cX2_goOneRoadOn 2 = .ok (.iload_n 1, 1) := by decide +kernel
theorem dX2_goOneRoadOn_3 : decode cX2_goOneRoadOn 3 = .ok (.bipush 6, 2) := by decide +kernel
theorem dX2_goOneRoadOn_5 : decode cX2_goOneRoadOn 5 = .ok (.if_icmp .ge 62, 3) := by decide +kernel
theorem dX2_goOneRoadOn_8 : decode cX2_goOneRoadOn 8 = .ok (.iconst 0, 1) := by decide +kernel
theorem dX2_goOneRoadOn_9 : decode cX2_goOneRoadOn 9 = .ok (.istore_n 2, 1) := by decide +kernel
theorem dX2_goOneRoadOn_10 : decode cX2_goOneRoadOn 10 = .ok (.iload_n 2, 1) := by decide +kernel
theorem dX2_goOneRoadOn_11 : decode cX2_goOneRoadOn 11 = .ok (.bipush 6, 2) := by decide +kernel
theorem dX2_goOneRoadOn_13 : decode cX2_goOneRoadOn 13 = .ok (.if_icmp .ge 48, 3) := by decide +kernel
theorem dX2_goOneRoadOn_16 : decode cX2_goOneRoadOn 16 = .ok (.aload_n 0, 1) := by decide +kernel
theorem dX2_goOneRoadOn_17 : decode cX2_goOneRoadOn 17 = .ok (.getfield 9, 3) := by decide +kernel
theorem dX2_goOneRoadOn_20 : decode cX2_goOneRoadOn 20 = .ok (.iload_n 1, 1) := by decide +kernel
theorem dX2_goOneRoadOn_21 : decode cX2_goOneRoadOn 21 = .ok (.bipush 6, 2) := by decide +kernel
theorem dX2_goOneRoadOn_23 : decode cX2_goOneRoadOn 23 = .ok (.imul, 1) := by decide +kernel
theorem dX2_goOneRoadOn_24 : decode cX2_goOneRoadOn 24 = .ok (.iload_n 2, 1) := by decide +kernel
theorem dX2_goOneRoadOn_25 : decode cX2_goOneRoadOn 25 = .ok (.iadd, 1) := by decide +kernel
theorem dX2_goOneRoadOn_26 : decode cX2_goOneRoadOn 26 = .ok (.iaload, 1) := by decide +kernel
theorem dX2_goOneRoadOn_27 : decode cX2_goOneRoadOn 27 = .ok (.istore_n 3, 1) := by decide +kernel
theorem dX2_goOneRoadOn_28 : decode cX2_goOneRoadOn 28 = .ok (.iload_n 3, 1) := by decide +kernel
theorem dX2_goOneRoadOn_29 : decode cX2_goOneRoadOn 29 = .ok (.ifCond .le 26, 3) := by decide +kernel
theorem dX2_goOneRoadOn_32 : decode cX2_goOneRoadOn 32 = .ok (.aload_n 0, 1) := by decide +kernel
theorem dX2_goOneRoadOn_33 : decode cX2_goOneRoadOn 33 = .ok (.getfield 21, 3) := by decide +kernel
theorem dX2_goOneRoadOn_36 : decode cX2_goOneRoadOn 36 = .ok (.iload_n 2, 1) := by decide +kernel
theorem dX2_goOneRoadOn_37 : decode cX2_goOneRoadOn 37 = .ok (.aload_n 0, 1) := by decide +kernel
theorem dX2_goOneRoadOn_38 : decode cX2_goOneRoadOn 38 = .ok (.getfield 21, 3) := by decide +kernel
theorem dX2_goOneRoadOn_41 : decode cX2_goOneRoadOn 41 = .ok (.iload_n 2, 1) := by decide +kernel
theorem dX2_goOneRoadOn_42 : decode cX2_goOneRoadOn 42 = .ok (.iaload, 1) := by decide +kernel
theorem dX2_goOneRoadOn_43 : decode cX2_goOneRoadOn 43 = .ok (.aload_n 0, 1) := by decide +kernel
theorem dX2_goOneRoadOn_44 : decode cX2_goOneRoadOn 44 = .ok (.getfield 21, 3) := by decide +kernel
theorem dX2_goOneRoadOn_47 : decode cX2_goOneRoadOn 47 = .ok (.iload_n 1, 1) := by decide +kernel
theorem dX2_goOneRoadOn_48 : decode cX2_goOneRoadOn 48 = .ok (.iaload, 1) := by decide +kernel
theorem dX2_goOneRoadOn_49 : decode cX2_goOneRoadOn 49 = .ok (.iload_n 3, 1) := by decide +kernel
theorem dX2_goOneRoadOn_50 : decode cX2_goOneRoadOn 50 = .ok (.iadd, 1) := by decide +kernel
theorem dX2_goOneRoadOn_51 : decode cX2_goOneRoadOn 51 = .ok (.invokestatic 39, 3) := by decide +kernel
theorem dX2_goOneRoadOn_54 : decode cX2_goOneRoadOn 54 = .ok (.iastore, 1) := by decide +kernel
theorem dX2_goOneRoadOn_55 : decode cX2_goOneRoadOn 55 = .ok (.iinc 2 1, 3) := by decide +kernel
theorem dX2_goOneRoadOn_58 : decode cX2_goOneRoadOn 58 = .ok (.goto (-48), 3) := by decide +kernel
theorem dX2_goOneRoadOn_61 : decode cX2_goOneRoadOn 61 = .ok (.iinc 1 1, 3) := by decide +kernel
theorem dX2_goOneRoadOn_64 : decode cX2_goOneRoadOn 64 = .ok (.goto (-62), 3) := by decide +kernel
theorem dX2_goOneRoadOn_67 : decode cX2_goOneRoadOn 67 = .ok (.return_, 1) := by decide +kernel
theorem dX2_write_0 : decode cX2_write 0 = .ok (.iconst 0, 1) := by decide +kernel
theorem dX2_write_1 : decode cX2_write 1 = .ok (.istore_n 3, 1) := by decide +kernel
theorem dX2_write_2 : decode cX2_write 2 = .ok (.iload_n 3, 1) := by decide +kernel
theorem dX2_write_3 : decode cX2_write 3 = .ok (.aload_n 0, 1) := by decide +kernel
theorem dX2_write_4 : decode cX2_write 4 = .ok (.getfield 30, 3) := by decide +kernel
theorem dX2_write_7 : decode cX2_write 7 = .ok (.if_icmp .ge 22, 3) := by decide +kernel
theorem dX2_write_10 : decode cX2_write 10 = .ok (.aload_n 0, 1) := by decide +kernel
theorem dX2_write_11 : decode cX2_write 11 = .ok (.getfield 15, 3) := by decide +kernel
theorem dX2_write_14 : decode cX2_write 14 = .ok (.iload_n 3, 1) := by decide +kernel
theorem dX2_write_15 : decode cX2_write 15 = .ok (.iaload, 1) := by decide +kernel
theorem dX2_write_16 : decode cX2_write 16 = .ok (.iload_n 1, 1) := by decide +kernel
theorem dX2_write_17 : decode cX2_write 17 = .ok (.if_icmp .ne 6, 3) := by decide +kernel
theorem dX2_write_20 : decode cX2_write 20 = .ok (.ldc 45, 2) := by decide +kernel
theorem dX2_write_22 : decode cX2_write 22 = .ok (.ireturn, 1) := by decide +kernel
theorem dX2_write_23 : decode cX2_write 23 = .ok (.iinc 3 1, 3) := by decide +kernel
theorem dX2_write_26 : decode cX2_write 26 = .ok (.goto (-24), 3) := by decide +kernel
theorem dX2_write_29 : decode cX2_write 29 = .ok (.aload_n 0, 1) := by decide +kernel
theorem dX2_write_30 : decode cX2_write 30 = .ok (.getfield 30, 3) := by decide +kernel
theorem dX2_write_33 : decode cX2_write 33 = .ok (.bipush 20, 2) := by decide +kernel
theorem dX2_write_35 : decode cX2_write 35 = .ok (.if_icmp .lt 6, 3) := by decide +kernel
theorem dX2_write_38 : decode cX2_write 38 = .ok (.ldc 46, 2) := by decide +kernel
theorem dX2_write_40 : decode cX2_write 40 = .ok (.ireturn, 1) := by decide +kernel
theorem dX2_write_41 : decode cX2_write 41 = .ok (.aload_n 0, 1) := by decide +kernel
theorem dX2_write_42 : decode cX2_write 42 = .ok (.getfield 15, 3) := by decide +kernel
theorem dX2_write_45 : decode cX2_write 45 = .ok (.aload_n 0, 1) := by decide +kernel
theorem dX2_write_46 : decode cX2_write 46 = .ok (.getfield 30, 3) := by decide +kernel
theorem dX2_write_49 : decode cX2_write 49 = .ok (.iload_n 1, 1) := by decide +kernel
theorem dX2_write_50 : decode cX2_write 50 = .ok (.iastore, 1) := by decide +kernel
theorem dX2_write_51 : decode cX2_write 51 = .ok (.aload_n 0, 1) := by decide +kernel
theorem dX2_write_52 : decode cX2_write 52 = .ok (.getfield 18, 3) := by decide +kernel
theorem dX2_write_55 : decode cX2_write 55 = .ok (.aload_n 0, 1) := by decide +kernel
theorem dX2_write_56 : decode cX2_write 56 = .ok (.getfield 30, 3) := by decide +kernel
theorem dX2_write_59 : decode cX2_write 59 = .ok (.iload_n 2, 1) := by decide +kernel
theorem dX2_write_60 : decode cX2_write 60 = .ok (.iastore, 1) := by decide +kernel
theorem dX2_write_61 : decode cX2_write 61 = .ok (.aload_n 0, 1) := by decide +kernel
theorem dX2_write_62 : decode cX2_write 62 = .ok (.dup, 1) := by decide +kernel
theorem dX2_write_63 : decode cX2_write 63 = .ok (.getfield 30, 3) := by decide +kernel
theorem dX2_write_66 : decode cX2_write 66 = .ok (.iconst 1, 1) := by decide +kernel
theorem dX2_write_67 : decode cX2_write 67 = .ok (.iadd, 1) := by decide +kernel
theorem dX2_write_68 : decode cX2_write 68 = .ok (.putfield 30, 3) := by decide +kernel
theorem dX2_write_71 : decode cX2_write 71 = .ok (.aload_n 0, 1) := by decide +kernel
theorem dX2_write_72 : decode cX2_write 72 = .ok (.getfield 30, 3) := by decide +kernel
theorem dX2_write_75 : decode cX2_write 75 = .ok (.ireturn, 1) := by decide +kernel
theorem dX2_allows_0 : decode cX2_allows 0 = .ok (.iconst (-1), 1) := by decide +kernel
theorem dX2_allows_1 : decode cX2_allows 1 = .ok (.istore 4, 2) := by decide +kernel
theorem dX2_allows_3 : decode cX2_allows 3 = .ok (.iconst (-1), 1) := by decide +kernel
theorem dX2_allows_4 : decode cX2_allows 4 = .ok (.istore 5, 2) := by decide +kernel
theorem dX2_allows_6 : decode cX2_allows 6 = .ok (.iconst 0, 1) := by decide +kernel
theorem dX2_allows_7 : decode cX2_allows 7 = .ok (.istore 6, 2) := by decide +kernel
theorem dX2_allows_9 : decode cX2_allows 9 = .ok (.iload 6, 2) := by decide +kernel
theorem dX2_allows_11 : decode cX2_allows 11 = .ok (.aload_n 0, 1) := by decide +kernel
theorem dX2_allows_12 : decode cX2_allows 12 = .ok (.getfield 30, 3) := by decide +kernel
theorem dX2_allows_15 : decode cX2_allows 15 = .ok (.if_icmp .ge 118, 3) := by decide +kernel
theorem dX2_allows_18 : decode cX2_allows 18 = .ok (.aload_n 0, 1) := by decide +kernel
theorem dX2_allows_19 : decode cX2_allows 19 = .ok (.getfield 15, 3) := by decide +kernel
theorem dX2_allows_22 : decode cX2_allows 22 = .ok (.iload 6, 2) := by decide +kernel
theorem dX2_allows_24 : decode cX2_allows 24 = .ok (.iaload, 1) := by decide +kernel
theorem dX2_allows_25 : decode cX2_allows 25 = .ok (.iload_n 2, 1) := by decide +kernel
theorem dX2_allows_26 : decode cX2_allows 26 = .ok (.if_icmp .lt 27, 3) := by decide +kernel
theorem dX2_allows_29 : decode cX2_allows 29 = .ok (.aload_n 0, 1) := by decide +kernel
theorem dX2_allows_30 : decode cX2_allows 30 = .ok (.getfield 15, 3) := by decide +kernel
theorem dX2_allows_33 : decode cX2_allows 33 = .ok (.iload 6, 2) := by decide +kernel
theorem dX2_allows_35 : decode cX2_allows 35 = .ok (.iaload, 1) := by decide +kernel
theorem dX2_allows_36 : decode cX2_allows 36 = .ok (.iload_n 3, 1) := by decide +kernel
theorem dX2_allows_37 : decode cX2_allows 37 = .ok (.if_icmp .gt 16, 3) := by decide +kernel
theorem dX2_allows_40 : decode cX2_allows 40 = .ok (.aload_n 0, 1) := by decide +kernel
theorem dX2_allows_41 : decode cX2_allows 41 = .ok (.getfield 18, 3) := by decide +kernel
theorem dX2_allows_44 : decode cX2_allows 44 = .ok (.iload 6, 2) := by decide +kernel
theorem dX2_allows_46 : decode cX2_allows 46 = .ok (.iaload, 1) := by decide +kernel
theorem dX2_allows_47 : decode cX2_allows 47 = .ok (.iload_n 1, 1) := by decide +kernel
theorem dX2_allows_48 : decode cX2_allows 48 = .ok (.if_icmp .eq 5, 3) := by decide +kernel
theorem dX2_allows_51 : decode cX2_allows 51 = .ok (.iconst 0, 1) := by decide +kernel
theorem dX2_allows_52 : decode cX2_allows 52 = .ok (.ireturn, 1) := by decide +kernel
theorem dX2_allows_53 : decode cX2_allows 53 = .ok (.aload_n 0, 1) := by decide +kernel
theorem dX2_allows_54 : decode cX2_allows 54 = .ok (.getfield 15, 3) := by decide +kernel
theorem dX2_allows_57 : decode cX2_allows 57 = .ok (.iload 6, 2) := by decide +kernel
theorem dX2_allows_59 : decode cX2_allows 59 = .ok (.iaload, 1) := by decide +kernel
theorem dX2_allows_60 : decode cX2_allows 60 = .ok (.iload_n 2, 1) := by decide +kernel
theorem dX2_allows_61 : decode cX2_allows 61 = .ok (.if_icmp .gt 29, 3) := by decide +kernel
theorem dX2_allows_64 : decode cX2_allows 64 = .ok (.iload 4, 2) := by decide +kernel
theorem dX2_allows_66 : decode cX2_allows 66 = .ok (.ifCond .lt 20, 3) := by decide +kernel
theorem dX2_allows_69 : decode cX2_allows 69 = .ok (.aload_n 0, 1) := by decide +kernel
theorem dX2_allows_70 : decode cX2_allows 70 = .ok (.getfield 15, 3) := by decide +kernel
theorem dX2_allows_73 : decode cX2_allows 73 = .ok (.iload 6, 2) := by decide +kernel
theorem dX2_allows_75 : decode cX2_allows 75 = .ok (.iaload, 1) := by decide +kernel
theorem dX2_allows_76 : decode cX2_allows 76 = .ok (.aload_n 0, 1) := by decide +kernel
theorem dX2_allows_77 : decode cX2_allows 77 = .ok (.getfield 15, 3) := by decide +kernel
theorem dX2_allows_80 : decode cX2_allows 80 = .ok (.iload 4, 2) := by decide +kernel
theorem dX2_allows_82 : decode cX2_allows 82 = .ok (.iaload, 1) := by decide +kernel
theorem dX2_allows_83 : decode cX2_allows 83 = .ok (.if_icmp .le 7, 3) := by decide +kernel
theorem dX2_allows_86 : decode cX2_allows 86 = .ok (.iload 6, 2) := by decide +kernel
theorem dX2_allows_88 : decode cX2_allows 88 = .ok (.istore 4, 2) := by decide +kernel
theorem dX2_allows_90 : decode cX2_allows 90 = .ok (.aload_n 0, 1) := by decide +kernel
theorem dX2_allows_91 : decode cX2_allows 91 = .ok (.getfield 15, 3) := by decide +kernel
theorem dX2_allows_94 : decode cX2_allows 94 = .ok (.iload 6, 2) := by decide +kernel
theorem dX2_allows_96 : decode cX2_allows 96 = .ok (.iaload, 1) := by decide +kernel
theorem dX2_allows_97 : decode cX2_allows 97 = .ok (.iload_n 3, 1) := by decide +kernel
theorem dX2_allows_98 : decode cX2_allows 98 = .ok (.if_icmp .le 29, 3) := by decide +kernel
theorem dX2_allows_101 : decode cX2_allows 101 = .ok (.iload 5, 2) := by decide +kernel
theorem dX2_allows_103 : decode cX2_allows 103 = .ok (.ifCond .lt 20, 3) := by decide +kernel
theorem dX2_allows_106 : decode cX2_allows 106 = .ok (.aload_n 0, 1) := by decide +kernel
theorem dX2_allows_107 : decode cX2_allows 107 = .ok (.getfield 15, 3) := by decide +kernel
theorem dX2_allows_110 : decode cX2_allows 110 = .ok (.iload 6, 2) := by decide +kernel
theorem dX2_allows_112 : decode cX2_allows 112 = .ok (.iaload, 1) := by decide +kernel
theorem dX2_allows_113 : decode cX2_allows 113 = .ok (.aload_n 0, 1) := by decide +kernel
theorem dX2_allows_114 : decode cX2_allows 114 = .ok (.getfield 15, 3) := by decide +kernel
theorem dX2_allows_117 : decode cX2_allows 117 = .ok (.iload 5, 2) := by decide +kernel
theorem dX2_allows_119 : decode cX2_allows 119 = .ok (.iaload, 1) := by decide +kernel
theorem dX2_allows_120 : decode cX2_allows 120 = .ok (.if_icmp .ge 7, 3) := by decide +kernel
theorem dX2_allows_123 : decode cX2_allows 123 = .ok (.iload 6, 2) := by decide +kernel
theorem dX2_allows_125 : decode cX2_allows 125 = .ok (.istore 5, 2) := by decide +kernel
theorem dX2_allows_127 : decode cX2_allows 127 = .ok (.iinc 6 1, 3) := by decide +kernel
theorem dX2_allows_130 : decode cX2_allows 130 = .ok (.goto (-121), 3) := by decide +kernel
theorem dX2_allows_133 : decode cX2_allows 133 = .ok (.iload 4, 2) := by decide +kernel
theorem dX2_allows_135 : decode cX2_allows 135 = .ok (.ifCond .lt 29, 3) := by decide +kernel
theorem dX2_allows_138 : decode cX2_allows 138 = .ok (.aload_n 0, 1) := by decide +kernel
theorem dX2_allows_139 : decode cX2_allows 139 = .ok (.aload_n 0, 1) := by decide +kernel
theorem dX2_allows_140 : decode cX2_allows 140 = .ok (.getfield 18, 3) := by decide +kernel
theorem dX2_allows_143 : decode cX2_allows 143 = .ok (.iload 4, 2) := by decide +kernel
theorem dX2_allows_145 : decode cX2_allows 145 = .ok (.iaload, 1) := by decide +kernel
theorem dX2_allows_146 : decode cX2_allows 146 = .ok (.iload_n 1, 1) := by decide +kernel
theorem dX2_allows_147 : decode cX2_allows 147 = .ok (.iload_n 2, 1) := by decide +kernel
theorem dX2_allows_148 : decode cX2_allows 148 = .ok (.aload_n 0, 1) := by decide +kernel
theorem dX2_allows_149 : decode cX2_allows 149 = .ok (.getfield 15, 3) := by decide +kernel
theorem dX2_allows_152 : decode cX2_allows 152 = .ok (.iload 4, 2) := by decide +kernel
theorem dX2_allows_154 : decode cX2_allows 154 = .ok (.iaload, 1) := by decide +kernel
theorem dX2_allows_155 : decode cX2_allows 155 = .ok (.isub, 1) := by decide +kernel
theorem dX2_allows_156 : decode cX2_allows 156 = .ok (.invokevirtual 47, 3) := by decide +kernel
theorem dX2_allows_159 : decode cX2_allows 159 = .ok (.ifCond .ne 5, 3) := by decide +kernel
theorem dX2_allows_162 : decode cX2_allows 162 = .ok (.iconst 0, 1) := by decide +kernel
theorem dX2_allows_163 : decode cX2_allows 163 = .ok (.ireturn, 1) := by decide +kernel
theorem dX2_allows_164 : decode cX2_allows 164 = .ok (.iload 5, 2) := by decide +kernel
theorem dX2_allows_166 : decode cX2_allows 166 = .ok (.ifCond .lt 27, 3) := by decide +kernel
theorem dX2_allows_169 : decode cX2_allows 169 = .ok (.aload_n 0, 1) := by decide +kernel
theorem dX2_allows_170 : decode cX2_allows 170 = .ok (.iload_n 1, 1) := by decide +kernel
theorem dX2_allows_171 : decode cX2_allows 171 = .ok (.aload_n 0, 1) := by decide +kernel
theorem dX2_allows_172 : decode cX2_allows 172 = .ok (.getfield 18, 3) := by decide +kernel
theorem dX2_allows_175 : decode cX2_allows 175 = .ok (.iload 5, 2) := by decide +kernel
theorem dX2_allows_177 : decode cX2_allows 177 = .ok (.iaload, 1) := by decide +kernel
theorem dX2_allows_178 : decode cX2_allows 178 = .ok (.aload_n 0, 1) := by decide +kernel
theorem dX2_allows_179 : decode cX2_allows 179 = .ok (.getfield 15, 3) := by decide +kernel
theorem dX2_allows_182 : decode cX2_allows 182 = .ok (.iload 5, 2) := by decide +kernel
theorem dX2_allows_184 : decode cX2_allows 184 = .ok (.iaload, 1) := by decide +kernel
theorem dX2_allows_185 : decode cX2_allows 185 = .ok (.iload_n 3, 1) := by decide +kernel
theorem dX2_allows_186 : decode cX2_allows 186 = .ok (.isub, 1) := by decide +kernel
theorem dX2_allows_187 : decode cX2_allows 187 = .ok (.invokevirtual 47, 3) := by decide +kernel
theorem dX2_allows_190 : decode cX2_allows 190 = .ok (.ifCond .eq 7, 3) := by decide +kernel
theorem dX2_allows_193 : decode cX2_allows 193 = .ok (.iconst 1, 1) := by decide +kernel
theorem dX2_allows_194 : decode cX2_allows 194 = .ok (.goto 4, 3) := by decide +kernel
theorem dX2_allows_197 : decode cX2_allows 197 = .ok (.iconst 0, 1) := by decide +kernel
theorem dX2_allows_198 : decode cX2_allows 198 = .ok (.ireturn, 1) := by decide +kernel
theorem dX2_canGo_0 : decode cX2_canGo 0 = .ok (.aload_n 0, 1) := by decide +kernel
theorem dX2_canGo_1 : decode cX2_canGo 1 = .ok (.iload_n 1, 1) := by decide +kernel
theorem dX2_canGo_2 : decode cX2_canGo 2 = .ok (.iload_n 2, 1) := by decide +kernel
theorem dX2_canGo_3 : decode cX2_canGo 3 = .ok (.invokevirtual 51, 3) := by decide +kernel
theorem dX2_canGo_6 : decode cX2_canGo 6 = .ok (.istore 4, 2) := by decide +kernel
theorem dX2_canGo_8 : decode cX2_canGo 8 = .ok (.iload 4, 2) := by decide +kernel
theorem dX2_canGo_10 : decode cX2_canGo 10 = .ok (.ldc 38, 2) := by decide +kernel
theorem dX2_canGo_12 : decode cX2_canGo 12 = .ok (.if_icmp .eq 13, 3) := by decide +kernel
theorem dX2_canGo_15 : decode cX2_canGo 15 = .ok (.iload_n 3, 1) := by decide +kernel
theorem dX2_canGo_16 : decode cX2_canGo 16 = .ok (.iload 4, 2) := by decide +kernel
theorem dX2_canGo_18 : decode cX2_canGo 18 = .ok (.if_icmp .lt 7, 3) := by decide +kernel
theorem dX2_canGo_21 : decode cX2_canGo 21 = .ok (.iconst 1, 1) := by decide +kernel
theorem dX2_canGo_22 : decode cX2_canGo 22 = .ok (.goto 4, 3) := by decide +kernel
theorem dX2_canGo_25 : decode cX2_canGo 25 = .ok (.iconst 0, 1) := by decide +kernel
theorem dX2_canGo_26 : decode cX2_canGo 26 = .ok (.ireturn, 1) := by decide +kernel
theorem dX3_init_0 : decode cX3_init 0 = .ok (.aload_n 0, 1) := by decide +kernel
theorem dX3_init_1 : decode cX3_init 1 = .ok (.invokespecial 3, 3) := by decide +kernel
theorem dX3_init_4 : decode cX3_init 4 = .ok (.aload_n 0, 1) := by decide +kernel
theorem dX3_init_5 : decode cX3_init 5 = .ok (.bipush 6, 2) := by decide +kernel
theorem dX3_init_7 : decode cX3_init 7 = .ok (.newarray .int, 2) := by decide +kernel
theorem dX3_init_9 : decode cX3_init 9 = .ok (.putfield 9, 3) := by decide +kernel
theorem dX3_init_12 : decode cX3_init 12 = .ok (.aload_n 0, 1) := by decide +kernel
theorem dX3_init_13 : decode cX3_init 13 = .ok (.bipush 72, 2) := by decide +kernel
theorem dX3_init_15 : decode cX3_init 15 = .ok (.newarray .int, 2) := by decide +kernel
theorem dX3_init_17 : decode cX3_init 17 = .ok (.putfield 15, 3) := by decide +kernel
theorem dX3_init_20 : decode cX3_init 20 = .ok (.return_, 1) := by decide +kernel
theorem dX3_become_0 : decode cX3_become 0 = .ok (.aload_n 1, 1) := by decide +kernel
theorem dX3_become_1 : decode cX3_become 1 = .ok (.getfield 9, 3) := by decide +kernel
theorem dX3_become_4 : decode cX3_become 4 = .ok (.iconst 0, 1) := by decide +kernel
theorem dX3_become_5 : decode cX3_become 5 = .ok (.aload_n 0, 1) := by decide +kernel
theorem dX3_become_6 : decode cX3_become 6 = .ok (.getfield 9, 3) := by decide +kernel
theorem dX3_become_9 : decode cX3_become 9 = .ok (.iconst 0, 1) := by decide +kernel
theorem dX3_become_10 : decode cX3_become 10 = .ok (.bipush 6, 2) := by decide +kernel
theorem dX3_become_12 : decode cX3_become 12 = .ok (.invokestatic 18, 3) := by decide +kernel
theorem dX3_become_15 : decode cX3_become 15 = .ok (.aload_n 1, 1) := by decide +kernel
theorem dX3_become_16 : decode cX3_become 16 = .ok (.getfield 15, 3) := by decide +kernel
theorem dX3_become_19 : decode cX3_become 19 = .ok (.iconst 0, 1) := by decide +kernel
theorem dX3_become_20 : decode cX3_become 20 = .ok (.aload_n 0, 1) := by decide +kernel
theorem dX3_become_21 : decode cX3_become 21 = .ok (.getfield 15, 3) := by decide +kernel
theorem dX3_become_24 : decode cX3_become 24 = .ok (.iconst 0, 1) := by decide +kernel
theorem dX3_become_25 : decode cX3_become 25 = .ok (.bipush 72, 2) := by decide +kernel
theorem dX3_become_27 : decode cX3_become 27 = .ok (.invokestatic 18, 3) := by decide +kernel
theorem dX3_become_30 : decode cX3_become 30 = .ok (.return_, 1) := by decide +kernel
theorem dX3_lengthOf_0 : decode cX3_lengthOf 0 = .ok (.iload_n 1, 1) := by decide +kernel
theorem dX3_lengthOf_1 : decode cX3_lengthOf 1 = .ok (.ifCond .lt 18, 3) := by decide +kernel
theorem dX3_lengthOf_4 : decode cX3_lengthOf 4 = .ok (.iload_n 1, 1) := by decide +kernel
theorem dX3_lengthOf_5 : decode cX3_lengthOf 5 = .ok (.bipush 6, 2) := by decide +kernel
theorem dX3_lengthOf_7 : decode cX3_lengthOf 7 = .ok (.if_icmp .ge 12, 3) := by decide +kernel
theorem dX3_lengthOf_10 : decode cX3_lengthOf 10 = .ok (.aload_n 0, 1) := by decide +kernel
theorem dX3_lengthOf_11 : decode cX3_lengthOf 11 = .ok (.getfield 9, 3) := by decide +kernel
theorem dX3_lengthOf_14 : decode cX3_lengthOf 14 = .ok (.iload_n 1, 1) := by decide +kernel
theorem dX3_lengthOf_15 : decode cX3_lengthOf 15 = .ok (.iaload, 1) := by decide +kernel
theorem dX3_lengthOf_16 : decode cX3_lengthOf 16 = .ok (.goto 4, 3) := by decide +kernel
theorem dX3_lengthOf_19 : decode cX3_lengthOf 19 = .ok (.iconst 0, 1) := by decide +kernel
theorem dX3_lengthOf_20 : decode cX3_lengthOf 20 = .ok (.ireturn, 1) := by decide +kernel
theorem dX3_at_0 : decode cX3_at 0 = .ok (.iload_n 2, 1) := by decide +kernel
theorem dX3_at_1 : decode cX3_at 1 = .ok (.ifCond .lt 26, 3) := by decide +kernel
theorem dX3_at_4 : decode cX3_at 4 = .ok (.iload_n 2, 1) := by decide +kernel
theorem dX3_at_5 : decode cX3_at 5 = .ok (.aload_n 0, 1) := by decide +kernel
theorem dX3_at_6 : decode cX3_at 6 = .ok (.iload_n 1, 1) := by decide +kernel
theorem dX3_at_7 : decode cX3_at 7 = .ok (.invokevirtual 24, 3) := by decide +kernel
theorem dX3_at_10 : decode cX3_at 10 = .ok (.if_icmp .ge 17, 3) := by decide +kernel
theorem dX3_at_13 : decode cX3_at 13 = .ok (.aload_n 0, 1) := by decide +kernel
theorem dX3_at_14 : decode cX3_at 14 = .ok (.getfield 15, 3) := by decide +kernel
theorem dX3_at_17 : decode cX3_at 17 = .ok (.iload_n 1, 1) := by decide +kernel
theorem dX3_at_18 : decode cX3_at 18 = .ok (.bipush 12, 2) := by decide +kernel
theorem dX3_at_20 : decode cX3_at 20 = .ok (.imul, 1) := by decide +kernel
theorem dX3_at_21 : decode cX3_at 21 = .ok (.iload_n 2, 1) := by decide +kernel
theorem dX3_at_22 : decode cX3_at 22 = .ok (.iadd, 1) := by decide +kernel
theorem dX3_at_23 : decode cX3_at 23 = .ok (.iaload, 1) := by decide +kernel
theorem dX3_at_24 : decode cX3_at 24 = .ok (.goto 5, 3) := by decide +kernel
theorem dX3_at_27 : decode cX3_at 27 = .ok (.ldc 28, 2) := by decide +kernel
theorem dX3_at_29 : decode cX3_at 29 = .ok (.ireturn, 1) := by decide +kernel
theorem dX3_lastOf_0 : decode cX3_lastOf 0 = .ok (.aload_n 0, 1) := by decide +kernel
theorem dX3_lastOf_1 : decode cX3_lastOf 1 = .ok (.iload_n 1, 1) := by decide +kernel
theorem dX3_lastOf_2 : decode cX3_lastOf 2 = .ok (.aload_n 0, 1) := by decide +kernel
theorem dX3_lastOf_3 : decode cX3_lastOf 3 = .ok (.iload_n 1, 1) := by decide +kernel
theorem dX3_lastOf_4 : decode cX3_lastOf 4 = .ok (.invokevirtual 24, 3) := by decide +kernel
theorem dX3_lastOf_7 : decode cX3_lastOf 7 = .ok (.iconst 1, 1) := by decide +kernel
theorem dX3_lastOf_8 : decode cX3_lastOf 8 = .ok (.isub, 1) := by decide +kernel
theorem dX3_lastOf_9 : decode cX3_lastOf 9 = .ok (.invokevirtual 29, 3) := by decide +kernel
theorem dX3_lastOf_12 : decode cX3_lastOf 12 = .ok (.ireturn, 1) := by decide +kernel
theorem dX3_holder_0 : decode cX3_holder 0 = .ok (.iconst 0, 1) := by decide +kernel
theorem dX3_holder_1 : decode cX3_holder 1 = .ok (.istore_n 2, 1) := by decide +kernel
theorem dX3_holder_2 : decode cX3_holder 2 = .ok (.iload_n 2, 1) := by decide +kernel
theorem dX3_holder_3 : decode cX3_holder 3 = .ok (.bipush 6, 2) := by decide +kernel
theorem dX3_holder_5 : decode cX3_holder 5 = .ok (.if_icmp .ge 44, 3) := by decide +kernel
theorem dX3_holder_8 : decode cX3_holder 8 = .ok (.iconst 0, 1) := by decide +kernel
theorem dX3_holder_9 : decode cX3_holder 9 = .ok (.istore_n 3, 1) := by decide +kernel
theorem dX3_holder_10 : decode cX3_holder 10 = .ok (.iload_n 3, 1) := by decide +kernel
theorem dX3_holder_11 : decode cX3_holder 11 = .ok (.aload_n 0, 1) := by decide +kernel
theorem dX3_holder_12 : decode cX3_holder 12 = .ok (.getfield 9, 3) := by decide +kernel
theorem dX3_holder_15 : decode cX3_holder 15 = .ok (.iload_n 2, 1) := by decide +kernel
theorem dX3_holder_16 : decode cX3_holder 16 = .ok (.iaload, 1) := by decide +kernel
theorem dX3_holder_17 : decode cX3_holder 17 = .ok (.if_icmp .ge 26, 3) := by decide +kernel
theorem dX3_holder_20 : decode cX3_holder 20 = .ok (.aload_n 0, 1) := by decide +kernel
theorem dX3_holder_21 : decode cX3_holder 21 = .ok (.getfield 15, 3) := by decide +kernel
theorem dX3_holder_24 : decode cX3_holder 24 = .ok (.iload_n 2, 1) := by decide +kernel
theorem dX3_holder_25 : decode cX3_holder 25 = .ok (.bipush 12, 2) := by decide +kernel
theorem dX3_holder_27 : decode cX3_holder 27 = .ok (.imul, 1) := by decide +kernel
theorem dX3_holder_28 : decode cX3_holder 28 = .ok (.iload_n 3, 1) := by decide +kernel
theorem dX3_holder_29 : decode cX3_holder 29 = .ok (.iadd, 1) := by decide +kernel
theorem dX3_holder_30 : decode cX3_holder 30 = .ok (.iaload, 1) := by decide +kernel
theorem dX3_holder_31 : decode cX3_holder 31 = .ok (.iload_n 1, 1) := by decide +kernel
theorem dX3_holder_32 : decode cX3_holder 32 = .ok (.if_icmp .ne 5, 3) := by decide +kernel
theorem dX3_holder_35 : decode cX3_holder 35 = .ok (.iload_n 2, 1) := by decide +kernel
theorem dX3_holder_36 : decode cX3_holder 36 = .ok (.ireturn, 1) := by decide +kernel
theorem dX3_holder_37 : decode cX3_holder 37 = .ok (.iinc 3 1, 3) := by decide +kernel
theorem dX3_holder_40 : decode cX3_holder 40 = .ok (.goto (-30), 3) := by decide +kernel
theorem dX3_holder_43 : decode cX3_holder 43 = .ok (.iinc 2 1, 3) := by decide +kernel
theorem dX3_holder_46 : decode cX3_holder 46 = .ok (.goto (-44), 3) := by decide +kernel
theorem dX3_holder_49 : decode cX3_holder 49 = .ok (.ldc 28, 2) := by decide +kernel
theorem dX3_holder_51 : decode cX3_holder 51 = .ok (.ireturn, 1) := by decide +kernel
theorem dX3_append_0 : decode cX3_append 0 = .ok (.aload_n 0, 1) := by decide +kernel
theorem dX3_append_1 : decode cX3_append 1 = .ok (.iload_n 1, 1) := by decide +kernel
theorem dX3_append_2 : decode cX3_append 2 = .ok (.invokevirtual 24, 3) := by decide +kernel
theorem dX3_append_5 : decode cX3_append 5 = .ok (.bipush 12, 2) := by decide +kernel
theorem dX3_append_7 : decode cX3_append 7 = .ok (.if_icmp .lt 6, 3) := by decide +kernel
theorem dX3_append_10 : decode cX3_append 10 = .ok (.ldc 33, 2) := by decide +kernel
theorem dX3_append_12 : decode cX3_append 12 = .ok (.ireturn, 1) := by decide +kernel
theorem dX3_append_13 : decode cX3_append 13 = .ok (.aload_n 0, 1) := by decide +kernel
theorem dX3_append_14 : decode cX3_append 14 = .ok (.getfield 15, 3) := by decide +kernel
theorem dX3_append_17 : decode cX3_append 17 = .ok (.iload_n 1, 1) := by decide +kernel
theorem dX3_append_18 : decode cX3_append 18 = .ok (.bipush 12, 2) := by decide +kernel
theorem dX3_append_20 : decode cX3_append 20 = .ok (.imul, 1) := by decide +kernel
theorem dX3_append_21 : decode cX3_append 21 = .ok (.aload_n 0, 1) := by decide +kernel
theorem dX3_append_22 : decode cX3_append 22 = .ok (.getfield 9, 3) := by decide +kernel
theorem dX3_append_25 : decode cX3_append 25 = .ok (.iload_n 1, 1) := by decide +kernel
theorem dX3_append_26 : decode cX3_append 26 = .ok (.iaload, 1) := by decide +kernel
theorem dX3_append_27 : decode cX3_append 27 = .ok (.iadd, 1) := by decide +kernel
theorem dX3_append_28 : decode cX3_append 28 = .ok (.iload_n 2, 1) := by decide +kernel
theorem dX3_append_29 : decode cX3_append 29 = .ok (.iastore, 1) := by decide +kernel
theorem dX3_append_30 : decode cX3_append 30 = .ok (.aload_n 0, 1) := by decide +kernel
theorem dX3_append_31 : decode cX3_append 31 = .ok (.getfield 9, 3) := by decide +kernel
theorem dX3_append_34 : decode cX3_append 34 = .ok (.iload_n 1, 1) := by decide +kernel
theorem dX3_append_35 : decode cX3_append 35 = .ok (.dup2, 1) := by decide +kernel
theorem dX3_append_36 : decode cX3_append 36 = .ok (.iaload, 1) := by decide +kernel
theorem dX3_append_37 : decode cX3_append 37 = .ok (.iconst 1, 1) := by decide +kernel
theorem dX3_append_38 : decode cX3_append 38 = .ok (.iadd, 1) := by decide +kernel
theorem dX3_append_39 : decode cX3_append 39 = .ok (.iastore, 1) := by decide +kernel
theorem dX3_append_40 : decode cX3_append 40 = .ok (.aload_n 0, 1) := by decide +kernel
theorem dX3_append_41 : decode cX3_append 41 = .ok (.getfield 9, 3) := by decide +kernel
theorem dX3_append_44 : decode cX3_append 44 = .ok (.iload_n 1, 1) := by decide +kernel
theorem dX3_append_45 : decode cX3_append 45 = .ok (.iaload, 1) := by decide +kernel
theorem dX3_append_46 : decode cX3_append 46 = .ok (.ireturn, 1) := by decide +kernel
theorem dX4_init_0 : decode cX4_init 0 = .ok (.aload_n 0, 1) := by decide +kernel
theorem dX4_init_1 : decode cX4_init 1 = .ok (.invokespecial 3, 3) := by decide +kernel
theorem dX4_init_4 : decode cX4_init 4 = .ok (.aload_n 0, 1) := by decide +kernel
theorem dX4_init_5 : decode cX4_init 5 = .ok (.iconst (-1), 1) := by decide +kernel
theorem dX4_init_6 : decode cX4_init 6 = .ok (.putfield 9, 3) := by decide +kernel
theorem dX4_init_9 : decode cX4_init 9 = .ok (.aload_n 0, 1) := by decide +kernel
theorem dX4_init_10 : decode cX4_init 10 = .ok (.bipush 24, 2) := by decide +kernel
theorem dX4_init_12 : decode cX4_init 12 = .ok (.newarray .int, 2) := by decide +kernel
theorem dX4_init_14 : decode cX4_init 14 = .ok (.putfield 15, 3) := by decide +kernel
theorem dX4_init_17 : decode cX4_init 17 = .ok (.return_, 1) := by decide +kernel
theorem dX4_become_0 : decode cX4_become 0 = .ok (.aload_n 0, 1) := by decide +kernel
theorem dX4_become_1 : decode cX4_become 1 = .ok (.aload_n 1, 1) := by decide +kernel
theorem dX4_become_2 : decode cX4_become 2 = .ok (.getfield 9, 3) := by decide +kernel
theorem dX4_become_5 : decode cX4_become 5 = .ok (.putfield 9, 3) := by decide +kernel
theorem dX4_become_8 : decode cX4_become 8 = .ok (.aload_n 0, 1) := by decide +kernel
theorem dX4_become_9 : decode cX4_become 9 = .ok (.aload_n 1, 1) := by decide +kernel
theorem dX4_become_10 : decode cX4_become 10 = .ok (.getfield 19, 3) := by decide +kernel
theorem dX4_become_13 : decode cX4_become 13 = .ok (.putfield 19, 3) := by decide +kernel
theorem dX4_become_16 : decode cX4_become 16 = .ok (.aload_n 1, 1) := by decide +kernel
theorem dX4_become_17 : decode cX4_become 17 = .ok (.getfield 15, 3) := by decide +kernel
theorem dX4_become_20 : decode cX4_become 20 = .ok (.iconst 0, 1) := by decide +kernel
theorem dX4_become_21 : decode cX4_become 21 = .ok (.aload_n 0, 1) := by decide +kernel
theorem dX4_become_22 : decode cX4_become 22 = .ok (.getfield 15, 3) := by decide +kernel
theorem dX4_become_25 : decode cX4_become 25 = .ok (.iconst 0, 1) := by decide +kernel
theorem dX4_become_26 : decode cX4_become 26 = .ok (.bipush 24, 2) := by decide +kernel
theorem dX4_become_28 : decode cX4_become 28 = .ok (.invokestatic 22, 3) := by decide +kernel
theorem dX4_become_31 : decode cX4_become 31 = .ok (.return_, 1) := by decide +kernel
theorem dX4_renew_0 : decode cX4_renew 0 = .ok (.aload_n 0, 1) := by decide +kernel
theorem dX4_renew_1 : decode cX4_renew 1 = .ok (.iload_n 1, 1) := by decide +kernel
theorem dX4_renew_2 : decode cX4_renew 2 = .ok (.putfield 9, 3) := by decide +kernel
theorem dX4_renew_5 : decode cX4_renew 5 = .ok (.aload_n 0, 1) := by decide +kernel
theorem dX4_renew_6 : decode cX4_renew 6 = .ok (.iload_n 2, 1) := by decide +kernel
theorem dX4_renew_7 : decode cX4_renew 7 = .ok (.putfield 19, 3) := by decide +kernel
theorem dX4_renew_10 : decode cX4_renew 10 = .ok (.iconst 0, 1) := by decide +kernel
theorem dX4_renew_11 : decode cX4_renew 11 = .ok (.istore_n 3, 1) := by decide +kernel
theorem dX4_renew_12 : decode cX4_renew 12 = .ok (.iload_n 3, 1) := by decide +kernel
theorem dX4_renew_13 : decode cX4_renew 13 = .ok (.bipush 24, 2) := by decide +kernel
theorem dX4_renew_15 : decode cX4_renew 15 = .ok (.if_icmp .ge 16, 3) := by decide +kernel
theorem dX4_renew_18 : decode cX4_renew 18 = .ok (.aload_n 0, 1) := by decide +kernel
theorem dX4_renew_19 : decode cX4_renew 19 = .ok (.getfield 15, 3) := by decide +kernel
theorem dX4_renew_22 : decode cX4_renew 22 = .ok (.iload_n 3, 1) := by decide +kernel
theorem dX4_renew_23 : decode cX4_renew 23 = .ok (.iconst 0, 1) := by decide +kernel
theorem dX4_renew_24 : decode cX4_renew 24 = .ok (.iastore, 1) := by decide +kernel
theorem dX4_renew_25 : decode cX4_renew 25 = .ok (.iinc 3 1, 3) := by decide +kernel
theorem dX4_renew_28 : decode cX4_renew 28 = .ok (.goto (-16), 3) := by decide +kernel
theorem dX4_renew_31 : decode cX4_renew 31 = .ok (.iload_n 2, 1) := by decide +kernel
theorem dX4_renew_32 : decode cX4_renew 32 = .ok (.ireturn, 1) := by decide +kernel
theorem dX4_has_0 : decode cX4_has 0 = .ok (.iload_n 1, 1) := by decide +kernel
theorem dX4_has_1 : decode cX4_has 1 = .ok (.ifCond .lt 15, 3) := by decide +kernel
theorem dX4_has_4 : decode cX4_has 4 = .ok (.iload_n 1, 1) := by decide +kernel
theorem dX4_has_5 : decode cX4_has 5 = .ok (.aload_n 0, 1) := by decide +kernel
theorem dX4_has_6 : decode cX4_has 6 = .ok (.getfield 19, 3) := by decide +kernel
theorem dX4_has_9 : decode cX4_has 9 = .ok (.if_icmp .ge 7, 3) := by decide +kernel
theorem dX4_has_12 : decode cX4_has 12 = .ok (.iconst 1, 1) := by decide +kernel
theorem dX4_has_13 : decode cX4_has 13 = .ok (.goto 4, 3) := by decide +kernel
theorem dX4_has_16 : decode cX4_has 16 = .ok (.iconst 0, 1) := by decide +kernel
theorem dX4_has_17 : decode cX4_has 17 = .ok (.ireturn, 1) := by decide +kernel
theorem dX4_hasRow_0 : decode cX4_hasRow 0 = .ok (.iload_n 1, 1) := by decide +kernel
theorem dX4_hasRow_1 : decode cX4_hasRow 1 = .ok (.ifCond .lt 29, 3) := by decide +kernel
theorem dX4_hasRow_4 : decode cX4_hasRow 4 = .ok (.iload_n 1, 1) := by decide +kernel
theorem dX4_hasRow_5 : decode cX4_hasRow 5 = .ok (.aload_n 0, 1) := by decide +kernel
theorem dX4_hasRow_6 : decode cX4_hasRow 6 = .ok (.getfield 19, 3) := by decide +kernel
theorem dX4_hasRow_9 : decode cX4_hasRow 9 = .ok (.if_icmp .gt 21, 3) := by decide +kernel
theorem dX4_hasRow_12 : decode cX4_hasRow 12 = .ok (.iload_n 2, 1) := by decide +kernel
theorem dX4_hasRow_13 : decode cX4_hasRow 13 = .ok (.ifCond .lt 17, 3) := by decide +kernel
theorem dX4_hasRow_16 : decode cX4_hasRow 16 = .ok (.iload_n 2, 1) := by decide +kernel
theorem dX4_hasRow_17 : decode cX4_hasRow 17 = .ok (.aload_n 0, 1) := by decide +kernel
theorem dX4_hasRow_18 : decode cX4_hasRow 18 = .ok (.getfield 19, 3) := by decide +kernel
theorem dX4_hasRow_21 : decode cX4_hasRow 21 = .ok (.iload_n 1, 1) := by decide +kernel
theorem dX4_hasRow_22 : decode cX4_hasRow 22 = .ok (.isub, 1) := by decide +kernel
theorem dX4_hasRow_23 : decode cX4_hasRow 23 = .ok (.if_icmp .gt 7, 3) := by decide +kernel
theorem dX4_hasRow_26 : decode cX4_hasRow 26 = .ok (.iconst 1, 1) := by decide +kernel
theorem dX4_hasRow_27 : decode cX4_hasRow 27 = .ok (.goto 4, 3) := by decide +kernel
theorem dX4_hasRow_30 : decode cX4_hasRow 30 = .ok (.iconst 0, 1) := by decide +kernel
theorem dX4_hasRow_31 : decode cX4_hasRow 31 = .ok (.ireturn, 1) := by decide +kernel
theorem dX4_values_0 : decode cX4_values 0 = .ok (.iconst 0, 1) := by decide +kernel
theorem dX4_values_1 : decode cX4_values 1 = .ok (.istore_n 1, 1) := by decide +kernel
theorem dX4_values_2 : decode cX4_values 2 = .ok (.iload_n 1, 1) := by decide +kernel
theorem dX4_values_3 : decode cX4_values 3 = .ok (.aload_n 0, 1) := by decide +kernel
theorem dX4_values_4 : decode cX4_values 4 = .ok (.getfield 19, 3) := by decide +kernel
theorem dX4_values_7 : decode cX4_values 7 = .ok (.if_icmp .ge 25, 3) := by decide +kernel
theorem dX4_values_10 : decode cX4_values 10 = .ok (.aload_n 0, 1) := by decide +kernel
theorem dX4_values_11 : decode cX4_values 11 = .ok (.getfield 15, 3) := by decide +kernel
theorem dX4_values_14 : decode cX4_values 14 = .ok (.iload_n 1, 1) := by decide +kernel
theorem dX4_values_15 : decode cX4_values 15 = .ok (.iaload, 1) := by decide +kernel
theorem dX4_values_16 : decode cX4_values 16 = .ok (.iconst 0, 1) := by decide +kernel
theorem dX4_values_17 : decode cX4_values 17 = .ok (.sipush 9999, 3) := by decide +kernel
theorem dX4_values_20 : decode cX4_values 20 = .ok (.invokestatic 28, 3) := by decide +kernel
theorem dX4_values_23 : decode cX4_values 23 = .ok (.ifCond .eq 9, 3) := by decide +kernel
theorem dX4_values_26 : decode cX4_values 26 = .ok (.iinc 1 1, 3) := by decide +kernel
theorem dX4_values_29 : decode cX4_values 29 = .ok (.goto (-27), 3) := by decide +kernel
theorem dX4_values_32 : decode cX4_values 32 = .ok (.iload_n 1, 1) := by decide +kernel
theorem dX4_values_33 : decode cX4_values 33 = .ok (.ireturn, 1) := by decide +kernel
theorem dX5_init_0 : decode cX5_init 0 = .ok (.aload_n 0, 1) := by decide +kernel
theorem dX5_init_1 : decode cX5_init 1 = .ok (.invokespecial 3, 3) := by decide +kernel
theorem dX5_init_4 : decode cX5_init 4 = .ok (.aload_n 0, 1) := by decide +kernel
theorem dX5_init_5 : decode cX5_init 5 = .ok (.iconst 0, 1) := by decide +kernel
theorem dX5_init_6 : decode cX5_init 6 = .ok (.putfield 9, 3) := by decide +kernel
theorem dX5_init_9 : decode cX5_init 9 = .ok (.aload_n 0, 1) := by decide +kernel
theorem dX5_init_10 : decode cX5_init 10 = .ok (.new 15, 3) := by decide +kernel
theorem dX5_init_13 : decode cX5_init 13 = .ok (.dup, 1) := by decide +kernel
theorem dX5_init_14 : decode cX5_init 14 = .ok (.invokespecial 17, 3) := by decide +kernel
theorem dX5_init_17 : decode cX5_init 17 = .ok (.putfield 18, 3) := by decide +kernel
theorem dX5_init_20 : decode cX5_init 20 = .ok (.return_, 1) := by decide +kernel
theorem dX5_holdFigure_0 : decode cX5_holdFigure 0 = .ok (.aload_n 0, 1) := by decide +kernel
theorem dX5_holdFigure_1 : decode cX5_holdFigure 1 = .ok (.iload_n 1, 1) := by decide +kernel
theorem dX5_holdFigure_2 : decode cX5_holdFigure 2 = .ok (.putfield 22, 3) := by decide +kernel
theorem dX5_holdFigure_5 : decode cX5_holdFigure 5 = .ok (.aload_n 0, 1) := by decide +kernel
theorem dX5_holdFigure_6 : decode cX5_holdFigure 6 = .ok (.iload_n 2, 1) := by decide +kernel
theorem dX5_holdFigure_7 : decode cX5_holdFigure 7 = .ok (.putfield 25, 3) := by decide +kernel
theorem dX5_holdFigure_10 : decode cX5_holdFigure 10 = .ok (.return_, 1) := by decide +kernel
theorem dX6_init_0 : decode cX6_init 0 = .ok (.aload_n 0, 1) := by decide +kernel
theorem dX6_init_1 : decode cX6_init 1 = .ok (.invokespecial 3, 3) := by decide +kernel
theorem dX6_init_4 : decode cX6_init 4 = .ok (.aload_n 0, 1) := by decide +kernel
theorem dX6_init_5 : decode cX6_init 5 = .ok (.new 9, 3) := by decide +kernel
theorem dX6_init_8 : decode cX6_init 8 = .ok (.dup, 1) := by decide +kernel
theorem dX6_init_9 : decode cX6_init 9 = .ok (.invokespecial 11, 3) := by decide +kernel
theorem dX6_init_12 : decode cX6_init 12 = .ok (.putfield 12, 3) := by decide +kernel
theorem dX6_init_15 : decode cX6_init 15 = .ok (.aload_n 0, 1) := by decide +kernel
theorem dX6_init_16 : decode cX6_init 16 = .ok (.new 18, 3) := by decide +kernel
theorem dX6_init_19 : decode cX6_init 19 = .ok (.dup, 1) := by decide +kernel
theorem dX6_init_20 : decode cX6_init 20 = .ok (.invokespecial 20, 3) := by decide +kernel
theorem dX6_init_23 : decode cX6_init 23 = .ok (.putfield 21, 3) := by decide +kernel
theorem dX6_init_26 : decode cX6_init 26 = .ok (.aload_n 0, 1) := by decide +kernel
theorem dX6_init_27 : decode cX6_init 27 = .ok (.new 25, 3) := by decide +kernel
theorem dX6_init_30 : decode cX6_init 30 = .ok (.dup, 1) := by decide +kernel
theorem dX6_init_31 : decode cX6_init 31 = .ok (.invokespecial 27, 3) := by decide +kernel
theorem dX6_init_34 : decode cX6_init 34 = .ok (.putfield 28, 3) := by decide +kernel
theorem dX6_init_37 : decode cX6_init 37 = .ok (.aload_n 0, 1) := by decide +kernel
theorem dX6_init_38 : decode cX6_init 38 = .ok (.new 32, 3) := by decide +kernel
theorem dX6_init_41 : decode cX6_init 41 = .ok (.dup, 1) := by decide +kernel
theorem dX6_init_42 : decode cX6_init 42 = .ok (.invokespecial 34, 3) := by decide +kernel
theorem dX6_init_45 : decode cX6_init 45 = .ok (.putfield 35, 3) := by decide +kernel
theorem dX6_init_48 : decode cX6_init 48 = .ok (.aload_n 0, 1) := by decide +kernel
theorem dX6_init_49 : decode cX6_init 49 = .ok (.new 39, 3) := by decide +kernel
theorem dX6_init_52 : decode cX6_init 52 = .ok (.dup, 1) := by decide +kernel
theorem dX6_init_53 : decode cX6_init 53 = .ok (.invokespecial 41, 3) := by decide +kernel
theorem dX6_init_56 : decode cX6_init 56 = .ok (.putfield 42, 3) := by decide +kernel
theorem dX6_init_59 : decode cX6_init 59 = .ok (.aload_n 0, 1) := by decide +kernel
theorem dX6_init_60 : decode cX6_init 60 = .ok (.bipush 6, 2) := by decide +kernel
theorem dX6_init_62 : decode cX6_init 62 = .ok (.newarray .int, 2) := by decide +kernel
theorem dX6_init_64 : decode cX6_init 64 = .ok (.putfield 46, 3) := by decide +kernel
theorem dX6_init_67 : decode cX6_init 67 = .ok (.aload_n 0, 1) := by decide +kernel
theorem dX6_init_68 : decode cX6_init 68 = .ok (.sipush 7700, 3) := by decide +kernel
theorem dX6_init_71 : decode cX6_init 71 = .ok (.putfield 50, 3) := by decide +kernel
theorem dX6_init_74 : decode cX6_init 74 = .ok (.aload_n 0, 1) := by decide +kernel
theorem dX6_init_75 : decode cX6_init 75 = .ok (.iconst 1, 1) := by decide +kernel
theorem dX6_init_76 : decode cX6_init 76 = .ok (.putfield 54, 3) := by decide +kernel
theorem dX6_init_79 : decode cX6_init 79 = .ok (.aload_n 0, 1) := by decide +kernel
theorem dX6_init_80 : decode cX6_init 80 = .ok (.bipush 12, 2) := by decide +kernel
theorem dX6_init_82 : decode cX6_init 82 = .ok (.newarray .int, 2) := by decide +kernel
theorem dX6_init_84 : decode cX6_init 84 = .ok (.putfield 57, 3) := by decide +kernel
theorem dX6_init_87 : decode cX6_init 87 = .ok (.return_, 1) := by decide +kernel
theorem dX6_become_0 : decode cX6_become 0 = .ok (.aload_n 0, 1) := by decide +kernel
theorem dX6_become_1 : decode cX6_become 1 = .ok (.getfield 12, 3) := by decide +kernel
theorem dX6_become_4 : decode cX6_become 4 = .ok (.aload_n 1, 1) := by decide +kernel
theorem dX6_become_5 : decode cX6_become 5 = .ok (.getfield 12, 3) := by decide +kernel
theorem dX6_become_8 : decode cX6_become 8 = .ok (.invokevirtual 60, 3) := by decide +kernel
theorem dX6_become_11 : decode cX6_become 11 = .ok (.aload_n 0, 1) := by decide +kernel
theorem dX6_become_12 : decode cX6_become 12 = .ok (.getfield 21, 3) := by decide +kernel
theorem dX6_become_15 : decode cX6_become 15 = .ok (.aload_n 1, 1) := by decide +kernel
theorem dX6_become_16 : decode cX6_become 16 = .ok (.getfield 21, 3) := by decide +kernel
theorem dX6_become_19 : decode cX6_become 19 = .ok (.invokevirtual 64, 3) := by decide +kernel
theorem dX6_become_22 : decode cX6_become 22 = .ok (.aload_n 0, 1) := by decide +kernel
theorem dX6_become_23 : decode cX6_become 23 = .ok (.getfield 28, 3) := by decide +kernel
theorem dX6_become_26 : decode cX6_become 26 = .ok (.aload_n 1, 1) := by decide +kernel
theorem dX6_become_27 : decode cX6_become 27 = .ok (.getfield 28, 3) := by decide +kernel
theorem dX6_become_30 : decode cX6_become 30 = .ok (.invokevirtual 67, 3) := by decide +kernel
theorem dX6_become_33 : decode cX6_become 33 = .ok (.aload_n 0, 1) := by decide +kernel
theorem dX6_become_34 : decode cX6_become 34 = .ok (.getfield 35, 3) := by decide +kernel
theorem dX6_become_37 : decode cX6_become 37 = .ok (.aload_n 1, 1) := by decide +kernel
theorem dX6_become_38 : decode cX6_become 38 = .ok (.getfield 35, 3) := by decide +kernel
theorem dX6_become_41 : decode cX6_become 41 = .ok (.invokevirtual 70, 3) := by decide +kernel
theorem dX6_become_44 : decode cX6_become 44 = .ok (.aload_n 0, 1) := by decide +kernel
theorem dX6_become_45 : decode cX6_become 45 = .ok (.getfield 42, 3) := by decide +kernel
theorem dX6_become_48 : decode cX6_become 48 = .ok (.aload_n 1, 1) := by decide +kernel
theorem dX6_become_49 : decode cX6_become 49 = .ok (.getfield 42, 3) := by decide +kernel
theorem dX6_become_52 : decode cX6_become 52 = .ok (.invokevirtual 73, 3) := by decide +kernel
theorem dX6_become_55 : decode cX6_become 55 = .ok (.aload_n 1, 1) := by decide +kernel
theorem dX6_become_56 : decode cX6_become 56 = .ok (.getfield 46, 3) := by decide +kernel
theorem dX6_become_59 : decode cX6_become 59 = .ok (.iconst 0, 1) := by decide +kernel
theorem dX6_become_60 : decode cX6_become 60 = .ok (.aload_n 0, 1) := by decide +kernel
theorem dX6_become_61 : decode cX6_become 61 = .ok (.getfield 46, 3) := by decide +kernel
theorem dX6_become_64 : decode cX6_become 64 = .ok (.iconst 0, 1) := by decide +kernel
theorem dX6_become_65 : decode cX6_become 65 = .ok (.bipush 6, 2) := by decide +kernel
theorem dX6_become_67 : decode cX6_become 67 = .ok (.invokestatic 76, 3) := by decide +kernel
theorem dX6_become_70 : decode cX6_become 70 = .ok (.aload_n 0, 1) := by decide +kernel
theorem dX6_become_71 : decode cX6_become 71 = .ok (.aload_n 1, 1) := by decide +kernel
theorem dX6_become_72 : decode cX6_become 72 = .ok (.getfield 82, 3) := by decide +kernel
theorem dX6_become_75 : decode cX6_become 75 = .ok (.putfield 82, 3) := by decide +kernel
theorem dX6_become_78 : decode cX6_become 78 = .ok (.aload_n 0, 1) := by decide +kernel
theorem dX6_become_79 : decode cX6_become 79 = .ok (.aload_n 1, 1) := by decide +kernel
theorem dX6_become_80 : decode cX6_become 80 = .ok (.getfield 50, 3) := by decide +kernel
theorem dX6_become_83 : decode cX6_become 83 = .ok (.putfield 50, 3) := by decide +kernel
theorem dX6_become_86 : decode cX6_become 86 = .ok (.aload_n 0, 1) := by decide +kernel
theorem dX6_become_87 : decode cX6_become 87 = .ok (.aload_n 1, 1) := by decide +kernel
theorem dX6_become_88 : decode cX6_become 88 = .ok (.getfield 54, 3) := by decide +kernel
theorem dX6_become_91 : decode cX6_become 91 = .ok (.putfield 54, 3) := by decide +kernel
theorem dX6_become_94 : decode cX6_become 94 = .ok (.return_, 1) := by decide +kernel
theorem dX6_spreadFor_0 : decode cX6_spreadFor 0 = .ok (.aload_n 0, 1) := by decide +kernel
theorem dX6_spreadFor_1 : decode cX6_spreadFor 1 = .ok (.getfield 21, 3) := by decide +kernel
theorem dX6_spreadFor_4 : decode cX6_spreadFor 4 = .ok (.iconst 1, 1) := by decide +kernel
theorem dX6_spreadFor_5 : decode cX6_spreadFor 5 = .ok (.iconst 0, 1) := by decide +kernel
theorem dX6_spreadFor_6 : decode cX6_spreadFor 6 = .ok (.invokevirtual 85, 3) := by decide +kernel
theorem dX6_spreadFor_9 : decode cX6_spreadFor 9 = .ok (.istore_n 3, 1) := by decide +kernel
theorem dX6_spreadFor_10 : decode cX6_spreadFor 10 = .ok (.iload_n 3, 1) := by decide +kernel
theorem dX6_spreadFor_11 : decode cX6_spreadFor 11 = .ok (.ldc 89, 2) := by decide +kernel
theorem dX6_spreadFor_13 : decode cX6_spreadFor 13 = .ok (.if_icmp .eq 22, 3) := by decide +kernel
theorem dX6_spreadFor_16 : decode cX6_spreadFor 16 = .ok (.aload_n 0, 1) := by decide +kernel
theorem dX6_spreadFor_17 : decode cX6_spreadFor 17 = .ok (.getfield 21, 3) := by decide +kernel
theorem dX6_spreadFor_20 : decode cX6_spreadFor 20 = .ok (.iload_n 3, 1) := by decide +kernel
theorem dX6_spreadFor_21 : decode cX6_spreadFor 21 = .ok (.iload_n 1, 1) := by decide +kernel
theorem dX6_spreadFor_22 : decode cX6_spreadFor 22 = .ok (.iload_n 2, 1) := by decide +kernel
theorem dX6_spreadFor_23 : decode cX6_spreadFor 23 = .ok (.iconst 0, 1) := by decide +kernel
theorem dX6_spreadFor_24 : decode cX6_spreadFor 24 = .ok (.invokevirtual 90, 3) := by decide +kernel
theorem dX6_spreadFor_27 : decode cX6_spreadFor 27 = .ok (.iconst 0, 1) := by decide +kernel
theorem dX6_spreadFor_28 : decode cX6_spreadFor 28 = .ok (.sipush 9999, 3) := by decide +kernel
theorem dX6_spreadFor_31 : decode cX6_spreadFor 31 = .ok (.invokestatic 94, 3) := by decide +kernel
theorem dX6_spreadFor_34 : decode cX6_spreadFor 34 = .ok (.ireturn, 1) := by decide +kernel
theorem dX6_spreadFor_35 : decode cX6_spreadFor 35 = .ok (.iload_n 1, 1) := by decide +kernel
theorem dX6_spreadFor_36 : decode cX6_spreadFor 36 = .ok (.ifCond .le 11, 3) := by decide +kernel
theorem dX6_spreadFor_39 : decode cX6_spreadFor 39 = .ok (.sipush 10000, 3) := by decide +kernel
theorem dX6_spreadFor_42 : decode cX6_spreadFor 42 = .ok (.iload_n 1, 1) := by decide +kernel
theorem dX6_spreadFor_43 : decode cX6_spreadFor 43 = .ok (.idiv, 1) := by decide +kernel
theorem dX6_spreadFor_44 : decode cX6_spreadFor 44 = .ok (.goto 4, 3) := by decide +kernel
theorem dX6_spreadFor_47 : decode cX6_spreadFor 47 = .ok (.iconst 0, 1) := by decide +kernel
theorem dX6_spreadFor_48 : decode cX6_spreadFor 48 = .ok (.ireturn, 1) := by decide +kernel
theorem dX6_spreadOf_0 : decode cX6_spreadOf 0 = .ok (.aload_n 0, 1) := by decide +kernel
theorem dX6_spreadOf_1 : decode cX6_spreadOf 1 = .ok (.aload_n 0, 1) := by decide +kernel
theorem dX6_spreadOf_2 : decode cX6_spreadOf 2 = .ok (.getfield 12, 3) := by decide +kernel
theorem dX6_spreadOf_5 : decode cX6_spreadOf 5 = .ok (.getfield 98, 3) := by decide +kernel
theorem dX6_spreadOf_8 : decode cX6_spreadOf 8 = .ok (.iload_n 1, 1) := by decide +kernel
theorem dX6_spreadOf_9 : decode cX6_spreadOf 9 = .ok (.iaload, 1) := by decide +kernel
theorem dX6_spreadOf_10 : decode cX6_spreadOf 10 = .ok (.aload_n 0, 1) := by decide +kernel
theorem dX6_spreadOf_11 : decode cX6_spreadOf 11 = .ok (.getfield 12, 3) := by decide +kernel
theorem dX6_spreadOf_14 : decode cX6_spreadOf 14 = .ok (.iload_n 1, 1) := by decide +kernel
theorem dX6_spreadOf_15 : decode cX6_spreadOf 15 = .ok (.invokevirtual 101, 3) := by decide +kernel
theorem dX6_spreadOf_18 : decode cX6_spreadOf 18 = .ok (.invokevirtual 105, 3) := by decide +kernel
theorem dX6_spreadOf_21 : decode cX6_spreadOf 21 = .ok (.ireturn, 1) := by decide +kernel
theorem dX6_isWorked_0 : decode cX6_isWorked 0 = .ok (.aload_n 0, 1) := by decide +kernel
theorem dX6_isWorked_1 : decode cX6_isWorked 1 = .ok (.getfield 21, 3) := by decide +kernel
theorem dX6_isWorked_4 : decode cX6_isWorked 4 = .ok (.iconst 0, 1) := by decide +kernel
theorem dX6_isWorked_5 : decode cX6_isWorked 5 = .ok (.aload_n 0, 1) := by decide +kernel
theorem dX6_isWorked_6 : decode cX6_isWorked 6 = .ok (.getfield 12, 3) := by decide +kernel
theorem dX6_isWorked_9 : decode cX6_isWorked 9 = .ok (.getfield 108, 3) := by decide +kernel
theorem dX6_isWorked_12 : decode cX6_isWorked 12 = .ok (.iload_n 1, 1) := by decide +kernel
theorem dX6_isWorked_13 : decode cX6_isWorked 13 = .ok (.iaload, 1) := by decide +kernel
theorem dX6_isWorked_14 : decode cX6_isWorked 14 = .ok (.invokevirtual 85, 3) := by decide +kernel
theorem dX6_isWorked_17 : decode cX6_isWorked 17 = .ok (.ldc 89, 2) := by decide +kernel
theorem dX6_isWorked_19 : decode cX6_isWorked 19 = .ok (.if_icmp .eq 7, 3) := by decide +kernel
theorem dX6_isWorked_22 : decode cX6_isWorked 22 = .ok (.iconst 1, 1) := by decide +kernel
theorem dX6_isWorked_23 : decode cX6_isWorked 23 = .ok (.goto 4, 3) := by decide +kernel
theorem dX6_isWorked_26 : decode cX6_isWorked 26 = .ok (.iconst 0, 1) := by decide +kernel
theorem dX6_isWorked_27 : decode cX6_isWorked 27 = .ok (.ireturn, 1) := by decide +kernel
theorem dX6_worked_0 : decode cX6_worked 0 = .ok (.aload_n 0, 1) := by decide +kernel
theorem dX6_worked_1 : decode cX6_worked 1 = .ok (.getfield 21, 3) := by decide +kernel
theorem dX6_worked_4 : decode cX6_worked 4 = .ok (.iconst 0, 1) := by decide +kernel
theorem dX6_worked_5 : decode cX6_worked 5 = .ok (.aload_n 0, 1) := by decide +kernel
theorem dX6_worked_6 : decode cX6_worked 6 = .ok (.getfield 12, 3) := by decide +kernel
theorem dX6_worked_9 : decode cX6_worked 9 = .ok (.getfield 108, 3) := by decide +kernel
theorem dX6_worked_12 : decode cX6_worked 12 = .ok (.iload_n 1, 1) := by decide +kernel
theorem dX6_worked_13 : decode cX6_worked 13 = .ok (.iaload, 1) := by decide +kernel
theorem dX6_worked_14 : decode cX6_worked 14 = .ok (.invokevirtual 85, 3) := by decide +kernel
theorem dX6_worked_17 : decode cX6_worked 17 = .ok (.istore_n 2, 1) := by decide +kernel
theorem dX6_worked_18 : decode cX6_worked 18 = .ok (.aload_n 0, 1) := by decide +kernel
theorem dX6_worked_19 : decode cX6_worked 19 = .ok (.getfield 12, 3) := by decide +kernel
theorem dX6_worked_22 : decode cX6_worked 22 = .ok (.getfield 111, 3) := by decide +kernel
theorem dX6_worked_25 : decode cX6_worked 25 = .ok (.iload_n 1, 1) := by decide +kernel
theorem dX6_worked_26 : decode cX6_worked 26 = .ok (.iaload, 1) := by decide +kernel
theorem dX6_worked_27 : decode cX6_worked 27 = .ok (.istore_n 3, 1) := by decide +kernel
theorem dX6_worked_28 : decode cX6_worked 28 = .ok (.aload_n 0, 1) := by decide +kernel
theorem dX6_worked_29 : decode cX6_worked 29 = .ok (.getfield 12, 3) := by decide +kernel
theorem dX6_worked_32 : decode cX6_worked 32 = .ok (.iload_n 3, 1) := by decide +kernel
theorem dX6_worked_33 : decode cX6_worked 33 = .ok (.invokevirtual 114, 3) := by decide +kernel
theorem dX6_worked_36 : decode cX6_worked 36 = .ok (.ifCond .eq 15, 3) := by decide +kernel
theorem dX6_worked_39 : decode cX6_worked 39 = .ok (.aload_n 0, 1) := by decide +kernel
theorem dX6_worked_40 : decode cX6_worked 40 = .ok (.getfield 12, 3) := by decide +kernel
theorem dX6_worked_43 : decode cX6_worked 43 = .ok (.getfield 118, 3) := by decide +kernel
theorem dX6_worked_46 : decode cX6_worked 46 = .ok (.iload_n 3, 1) := by decide +kernel
theorem dX6_worked_47 : decode cX6_worked 47 = .ok (.iaload, 1) := by decide +kernel
theorem dX6_worked_48 : decode cX6_worked 48 = .ok (.goto 4, 3) := by decide +kernel
theorem dX6_worked_51 : decode cX6_worked 51 = .ok (.iconst 0, 1) := by decide +kernel
theorem dX6_worked_52 : decode cX6_worked 52 = .ok (.istore 4, 2) := by decide +kernel
theorem dX6_worked_54 : decode cX6_worked 54 = .ok (.aload_n 0, 1) := by decide +kernel
theorem dX6_worked_55 : decode cX6_worked 55 = .ok (.getfield 21, 3) := by decide +kernel
theorem dX6_worked_58 : decode cX6_worked 58 = .ok (.iload_n 2, 1) := by decide +kernel
theorem dX6_worked_59 : decode cX6_worked 59 = .ok (.aload_n 0, 1) := by decide +kernel
theorem dX6_worked_60 : decode cX6_worked 60 = .ok (.getfield 12, 3) := by decide +kernel
theorem dX6_worked_63 : decode cX6_worked 63 = .ok (.getfield 98, 3) := by decide +kernel
theorem dX6_worked_66 : decode cX6_worked 66 = .ok (.iload_n 1, 1) := by decide +kernel
theorem dX6_worked_67 : decode cX6_worked 67 = .ok (.iaload, 1) := by decide +kernel
theorem dX6_worked_68 : decode cX6_worked 68 = .ok (.iload 4, 2) := by decide +kernel
theorem dX6_worked_70 : decode cX6_worked 70 = .ok (.aload_n 0, 1) := by decide +kernel
theorem dX6_worked_71 : decode cX6_worked 71 = .ok (.getfield 12, 3) := by decide +kernel
theorem dX6_worked_74 : decode cX6_worked 74 = .ok (.iload_n 1, 1) := by decide +kernel
theorem dX6_worked_75 : decode cX6_worked 75 = .ok (.invokevirtual 121, 3) := by decide +kernel
theorem dX6_worked_78 : decode cX6_worked 78 = .ok (.invokevirtual 90, 3) := by decide +kernel
theorem dX6_worked_81 : decode cX6_worked 81 = .ok (.ireturn, 1) := by decide +kernel
theorem dX6_isWorkedWithin_0 : decode cX6_isWorkedWithin 0 = .ok (.aload_n 0, 1) := by decide +kernel
theorem dX6_isWorkedWithin_1 : decode cX6_isWorkedWithin 1 = .ok (.iload_n 1, 1) := by decide +kernel
theorem dX6_isWorkedWithin_2 : decode cX6_isWorkedWithin 2 = .ok (.invokevirtual 124, 3) := by decide +kernel
theorem dX6_isWorkedWithin_5 : decode cX6_isWorkedWithin 5 = .ok (.ifCond .ne 5, 3) := by decide +kernel
theorem dX6_isWorkedWithin_8 : decode cX6_isWorkedWithin 8 = .ok (.iconst 0, 1) := by decide +kernel
theorem dX6_isWorkedWithin_9 : decode cX6_isWorkedWithin 9 = .ok (.ireturn, 1) := by decide +kernel
theorem dX6_isWorkedWithin_10 : decode cX6_isWorkedWithin 10 = .ok (.aload_n 0, 1) := by decide +kernel
theorem dX6_isWorkedWithin_11 : decode cX6_isWorkedWithin 11 = .ok (.iload_n 1, 1) := by decide +kernel
theorem dX6_isWorkedWithin_12 : decode cX6_isWorkedWithin 12 = .ok (.invokevirtual 127, 3) := by decide +kernel
theorem dX6_isWorkedWithin_15 : decode cX6_isWorkedWithin 15 = .ok (.i2l, 1) := by decide +kernel
theorem dX6_isWorkedWithin_16 : decode cX6_isWorkedWithin 16 = .ok (.aload_n 0, 1) := by decide +kernel
theorem dX6_isWorkedWithin_17 : decode cX6_isWorkedWithin 17 = .ok (.getfield 12, 3) := by decide +kernel
theorem dX6_isWorkedWithin_20 : decode cX6_isWorkedWithin 20 = .ok (.getfield 118, 3) := by decide +kernel
theorem dX6_isWorkedWithin_23 : decode cX6_isWorkedWithin 23 = .ok (.iload_n 1, 1) := by decide +kernel
theorem dX6_isWorkedWithin_24 : decode cX6_isWorkedWithin 24 = .ok (.iaload, 1) := by decide +kernel
theorem dX6_isWorkedWithin_25 : decode cX6_isWorkedWithin 25 = .ok (.i2l, 1) := by decide +kernel
theorem dX6_isWorkedWithin_26 : decode cX6_isWorkedWithin 26 = .ok (.lsub, 1) := by decide +kernel
theorem dX6_isWorkedWithin_27 : decode cX6_isWorkedWithin 27 = .ok (.lstore_n 3, 1) := by decide +kernel
theorem dX6_isWorkedWithin_28 : decode cX6_isWorkedWithin 28 = .ok (.lload_n 3, 1) := by decide +kernel
theorem dX6_isWorkedWithin_29 : decode cX6_isWorkedWithin 29 = .ok (.iload_n 2, 1) := by decide +kernel
theorem dX6_isWorkedWithin_30 : decode cX6_isWorkedWithin 30 = .ok (.ineg, 1) := by decide +kernel
theorem dX6_isWorkedWithin_31 : decode cX6_isWorkedWithin 31 = .ok (.i2l, 1) := by decide +kernel
theorem dX6_isWorkedWithin_32 : decode cX6_isWorkedWithin 32 = .ok (.lcmp, 1) := by decide +kernel
theorem dX6_isWorkedWithin_33 : decode cX6_isWorkedWithin 33 = .ok (.ifCond .lt 14, 3) := by decide +kernel
theorem dX6_isWorkedWithin_36 : decode cX6_isWorkedWithin 36 = .ok (.lload_n 3, 1) := by decide +kernel
theorem dX6_isWorkedWithin_37 : decode cX6_isWorkedWithin 37 = .ok (.iload_n 2, 1) := by decide +kernel
theorem dX6_isWorkedWithin_38 : decode cX6_isWorkedWithin 38 = .ok (.i2l, 1) := by decide +kernel
theorem dX6_isWorkedWithin_39 : decode cX6_isWorkedWithin 39 = .ok (.lcmp, 1) := by decide +kernel
theorem dX6_isWorkedWithin_40 : decode cX6_isWorkedWithin 40 = .ok (.ifCond .gt 7, 3) := by decide +kernel
theorem dX6_isWorkedWithin_43 : decode cX6_isWorkedWithin 43 = .ok (.iconst 1, 1) := by decide +kernel
theorem dX6_isWorkedWithin_44 : decode cX6_isWorkedWithin 44 = .ok (.goto 4, 3) := by decide +kernel
theorem dX6_isWorkedWithin_47 : decode cX6_isWorkedWithin 47 = .ok (.iconst 0, 1) := by decide +kernel
theorem dX6_isWorkedWithin_48 : decode cX6_isWorkedWithin 48 = .ok (.ireturn, 1) := by decide +kernel
theorem dX6_fits_0 : decode cX6_fits 0 = .ok (.aload_n 0, 1) := by decide +kernel
theorem dX6_fits_1 : decode cX6_fits 1 = .ok (.getfield 12, 3) := by decide +kernel
theorem dX6_fits_4 : decode cX6_fits 4 = .ok (.getfield 118, 3) := by decide +kernel
theorem dX6_fits_7 : decode cX6_fits 7 = .ok (.iload_n 1, 1) := by decide +kernel
theorem dX6_fits_8 : decode cX6_fits 8 = .ok (.iaload, 1) := by decide +kernel
theorem dX6_fits_9 : decode cX6_fits 9 = .ok (.istore_n 3, 1) := by decide +kernel
theorem dX6_fits_10 : decode cX6_fits 10 = .ok (.aload_n 0, 1) := by decide +kernel
theorem dX6_fits_11 : decode cX6_fits 11 = .ok (.getfield 12, 3) := by decide +kernel
theorem dX6_fits_14 : decode cX6_fits 14 = .ok (.getfield 111, 3) := by decide +kernel
theorem dX6_fits_17 : decode cX6_fits 17 = .ok (.iload_n 1, 1) := by decide +kernel
theorem dX6_fits_18 : decode cX6_fits 18 = .ok (.iaload, 1) := by decide +kernel
theorem dX6_fits_19 : decode cX6_fits 19 = .ok (.istore 4, 2) := by decide +kernel
theorem dX6_fits_21 : decode cX6_fits 21 = .ok (.aload_n 0, 1) := by decide +kernel
theorem dX6_fits_22 : decode cX6_fits 22 = .ok (.getfield 12, 3) := by decide +kernel
theorem dX6_fits_25 : decode cX6_fits 25 = .ok (.iload 4, 2) := by decide +kernel
theorem dX6_fits_27 : decode cX6_fits 27 = .ok (.invokevirtual 114, 3) := by decide +kernel
theorem dX6_fits_30 : decode cX6_fits 30 = .ok (.ifCond .eq 16, 3) := by decide +kernel
theorem dX6_fits_33 : decode cX6_fits 33 = .ok (.aload_n 0, 1) := by decide +kernel
theorem dX6_fits_34 : decode cX6_fits 34 = .ok (.getfield 12, 3) := by decide +kernel
theorem dX6_fits_37 : decode cX6_fits 37 = .ok (.getfield 118, 3) := by decide +kernel
theorem dX6_fits_40 : decode cX6_fits 40 = .ok (.iload 4, 2) := by decide +kernel
theorem dX6_fits_42 : decode cX6_fits 42 = .ok (.iaload, 1) := by decide +kernel
theorem dX6_fits_43 : decode cX6_fits 43 = .ok (.goto 4, 3) := by decide +kernel
theorem dX6_fits_46 : decode cX6_fits 46 = .ok (.iconst (-1), 1) := by decide +kernel
theorem dX6_fits_47 : decode cX6_fits 47 = .ok (.istore 5, 2) := by decide +kernel
theorem dX6_fits_49 : decode cX6_fits 49 = .ok (.iload_n 2, 1) := by decide +kernel
theorem dX6_fits_50 : decode cX6_fits 50 = .ok (.tableswitch 133 1 7 #[42, 65, 72, 80, 92, 133, 113], 42) := by decide +kernel
theorem dX6_fits_92 : decode cX6_fits 92 = .ok (.iload_n 3, 1) := by decide +kernel
theorem dX6_fits_93 : decode cX6_fits 93 = .ok (.aload_n 0, 1) := by decide +kernel
theorem dX6_fits_94 : decode cX6_fits 94 = .ok (.getfield 50, 3) := by decide +kernel
theorem dX6_fits_97 : decode cX6_fits 97 = .ok (.isub, 1) := by decide +kernel
theorem dX6_fits_98 : decode cX6_fits 98 = .ok (.invokestatic 130, 3) := by decide +kernel
theorem dX6_fits_101 : decode cX6_fits 101 = .ok (.aload_n 0, 1) := by decide +kernel
theorem dX6_fits_102 : decode cX6_fits 102 = .ok (.iload_n 1, 1) := by decide +kernel
theorem dX6_fits_103 : decode cX6_fits 103 = .ok (.invokevirtual 135, 3) := by decide +kernel
theorem dX6_fits_106 : decode cX6_fits 106 = .ok (.if_icmp .gt 7, 3) := by decide +kernel
theorem dX6_fits_109 : decode cX6_fits 109 = .ok (.iconst 1, 1) := by decide +kernel
theorem dX6_fits_110 : decode cX6_fits 110 = .ok (.goto 4, 3) := by decide +kernel
theorem dX6_fits_113 : decode cX6_fits 113 = .ok (.iconst 0, 1) := by decide +kernel
theorem dX6_fits_114 : decode cX6_fits 114 = .ok (.ireturn, 1) := by decide +kernel
theorem dX6_fits_115 : decode cX6_fits 115 = .ok (.aload_n 0, 1) := by decide +kernel
theorem dX6_fits_116 : decode cX6_fits 116 = .ok (.iload_n 1, 1) := by decide +kernel
theorem dX6_fits_117 : decode cX6_fits 117 = .ok (.iconst 0, 1) := by decide +kernel
theorem dX6_fits_118 : decode cX6_fits 118 = .ok (.invokevirtual 138, 3) := by decide +kernel
theorem dX6_fits_121 : decode cX6_fits 121 = .ok (.ireturn, 1) := by decide +kernel
theorem dX6_fits_122 : decode cX6_fits 122 = .ok (.aload_n 0, 1) := by decide +kernel
theorem dX6_fits_123 : decode cX6_fits 123 = .ok (.iload_n 1, 1) := by decide +kernel
theorem dX6_fits_124 : decode cX6_fits 124 = .ok (.bipush 50, 2) := by decide +kernel
theorem dX6_fits_126 : decode cX6_fits 126 = .ok (.invokevirtual 138, 3) := by decide +kernel
theorem dX6_fits_129 : decode cX6_fits 129 = .ok (.ireturn, 1) := by decide +kernel
theorem dX6_fits_130 : decode cX6_fits 130 = .ok (.iload 5, 2) := by decide +kernel
theorem dX6_fits_132 : decode cX6_fits 132 = .ok (.iload_n 3, 1) := by decide +kernel
theorem dX6_fits_133 : decode cX6_fits 133 = .ok (.if_icmp .ne 7, 3) := by decide +kernel
theorem dX6_fits_136 : decode cX6_fits 136 = .ok (.iconst 1, 1) := by decide +kernel
theorem dX6_fits_137 : decode cX6_fits 137 = .ok (.goto 4, 3) := by decide +kernel
theorem dX6_fits_140 : decode cX6_fits 140 = .ok (.iconst 0, 1) := by decide +kernel
theorem dX6_fits_141 : decode cX6_fits 141 = .ok (.ireturn, 1) := by decide +kernel
theorem dX6_fits_142 : decode cX6_fits 142 = .ok (.iload 5, 2) := by decide +kernel
theorem dX6_fits_144 : decode cX6_fits 144 = .ok (.ifCond .lt 17, 3) := by decide +kernel
theorem dX6_fits_147 : decode cX6_fits 147 = .ok (.iload_n 3, 1) := by decide +kernel
theorem dX6_fits_148 : decode cX6_fits 148 = .ok (.iload 5, 2) := by decide +kernel
theorem dX6_fits_150 : decode cX6_fits 150 = .ok (.invokestatic 142, 3) := by decide +kernel
theorem dX6_fits_153 : decode cX6_fits 153 = .ok (.iconst 1, 1) := by decide +kernel
theorem dX6_fits_154 : decode cX6_fits 154 = .ok (.if_icmp .ne 7, 3) := by decide +kernel
theorem dX6_fits_157 : decode cX6_fits 157 = .ok (.iconst 1, 1) := by decide +kernel
theorem dX6_fits_158 : decode cX6_fits 158 = .ok (.goto 4, 3) := by decide +kernel
theorem dX6_fits_161 : decode cX6_fits 161 = .ok (.iconst 0, 1) := by decide +kernel
theorem dX6_fits_162 : decode cX6_fits 162 = .ok (.ireturn, 1) := by decide +kernel
theorem dX6_fits_163 : decode cX6_fits 163 = .ok (.iload 5, 2) := by decide +kernel
theorem dX6_fits_165 : decode cX6_fits 165 = .ok (.ifCond .lt 16, 3) := by decide +kernel
theorem dX6_fits_168 : decode cX6_fits 168 = .ok (.iload_n 3, 1) := by decide +kernel
theorem dX6_fits_169 : decode cX6_fits 169 = .ok (.iload 5, 2) := by decide +kernel
theorem dX6_fits_171 : decode cX6_fits 171 = .ok (.iadd, 1) := by decide +kernel
theorem dX6_fits_172 : decode cX6_fits 172 = .ok (.iconst 2, 1) := by decide +kernel
theorem dX6_fits_173 : decode cX6_fits 173 = .ok (.irem, 1) := by decide +kernel
theorem dX6_fits_174 : decode cX6_fits 174 = .ok (.ifCond .ne 7, 3) := by decide +kernel
theorem dX6_fits_177 : decode cX6_fits 177 = .ok (.iconst 1, 1) := by decide +kernel
theorem dX6_fits_178 : decode cX6_fits 178 = .ok (.goto 4, 3) := by decide +kernel
theorem dX6_fits_181 : decode cX6_fits 181 = .ok (.iconst 0, 1) := by decide +kernel
theorem dX6_fits_182 : decode cX6_fits 182 = .ok (.ireturn, 1) := by decide +kernel
theorem dX6_fits_183 : decode cX6_fits 183 = .ok (.iconst 1, 1) := by decide +kernel
theorem dX6_fits_184 : decode cX6_fits 184 = .ok (.ireturn, 1) := by decide +kernel
theorem dX6_unlikeDigits_0 : decode cX6_unlikeDigits 0 = .ok (.iconst 0, 1) := by decide +kernel
theorem dX6_unlikeDigits_1 : decode cX6_unlikeDigits 1 = .ok (.istore_n 2, 1) := by decide +kernel
theorem dX6_unlikeDigits_2 : decode cX6_unlikeDigits 2 = .ok (.iconst 1, 1) := by decide +kernel
theorem dX6_unlikeDigits_3 : decode cX6_unlikeDigits 3 = .ok (.istore_n 3, 1) := by decide +kernel
theorem dX6_unlikeDigits_4 : decode cX6_unlikeDigits 4 = .ok (.iload_n 3, 1) := by decide +kernel
theorem dX6_unlikeDigits_5 : decode cX6_unlikeDigits 5 = .ok (.iconst 4, 1) := by decide +kernel
theorem dX6_unlikeDigits_6 : decode cX6_unlikeDigits 6 = .ok (.if_icmp .gt 35, 3) := by decide +kernel
theorem dX6_unlikeDigits_9 : decode cX6_unlikeDigits 9 = .ok (.iload_n 0, 1) := by decide +kernel
theorem dX6_unlikeDigits_10 : decode cX6_unlikeDigits 10 = .ok (.getstatic 145, 3) := by decide +kernel
theorem dX6_unlikeDigits_13 : decode cX6_unlikeDigits 13 = .ok (.iload_n 3, 1) := by decide +kernel
theorem dX6_unlikeDigits_14 : decode cX6_unlikeDigits 14 = .ok (.iaload, 1) := by decide +kernel
theorem dX6_unlikeDigits_15 : decode cX6_unlikeDigits 15 = .ok (.idiv, 1) := by decide +kernel
theorem dX6_unlikeDigits_16 : decode cX6_unlikeDigits 16 = .ok (.bipush 10, 2) := by decide +kernel
theorem dX6_unlikeDigits_18 : decode cX6_unlikeDigits 18 = .ok (.irem, 1) := by decide +kernel
theorem dX6_unlikeDigits_19 : decode cX6_unlikeDigits 19 = .ok (.iload_n 1, 1) := by decide +kernel
theorem dX6_unlikeDigits_20 : decode cX6_unlikeDigits 20 = .ok (.getstatic 145, 3) := by decide +kernel
theorem dX6_unlikeDigits_23 : decode cX6_unlikeDigits 23 = .ok (.iload_n 3, 1) := by decide +kernel
theorem dX6_unlikeDigits_24 : decode cX6_unlikeDigits 24 = .ok (.iaload, 1) := by decide +kernel
theorem dX6_unlikeDigits_25 : decode cX6_unlikeDigits 25 = .ok (.idiv, 1) := by decide +kernel
theorem dX6_unlikeDigits_26 : decode cX6_unlikeDigits 26 = .ok (.bipush 10, 2) := by decide +kernel
theorem dX6_unlikeDigits_28 : decode cX6_unlikeDigits 28 = .ok (.irem, 1) := by decide +kernel
theorem dX6_unlikeDigits_29 : decode cX6_unlikeDigits 29 = .ok (.if_icmp .eq 6, 3) := by decide +kernel
theorem dX6_unlikeDigits_32 : decode cX6_unlikeDigits 32 = .ok (.iinc 2 1, 3) := by decide +kernel
theorem dX6_unlikeDigits_35 : decode cX6_unlikeDigits 35 = .ok (.iinc 3 1, 3) := by decide +kernel
theorem dX6_unlikeDigits_38 : decode cX6_unlikeDigits 38 = .ok (.goto (-34), 3) := by decide +kernel
theorem dX6_unlikeDigits_41 : decode cX6_unlikeDigits 41 = .ok (.iload_n 2, 1) := by decide +kernel
theorem dX6_unlikeDigits_42 : decode cX6_unlikeDigits 42 = .ok (.ireturn, 1) := by decide +kernel
theorem dX6_fitting_0 : decode cX6_fitting 0 = .ok (.iconst 0, 1) := by decide +kernel
theorem dX6_fitting_1 : decode cX6_fitting 1 = .ok (.istore_n 1, 1) := by decide +kernel
theorem dX6_fitting_2 : decode cX6_fitting 2 = .ok (.iconst 0, 1) := by decide +kernel
theorem dX6_fitting_3 : decode cX6_fitting 3 = .ok (.istore_n 2, 1) := by decide +kernel
theorem dX6_fitting_4 : decode cX6_fitting 4 = .ok (.iload_n 2, 1) := by decide +kernel
theorem dX6_fitting_5 : decode cX6_fitting 5 = .ok (.aload_n 0, 1) := by decide +kernel
theorem dX6_fitting_6 : decode cX6_fitting 6 = .ok (.getfield 12, 3) := by decide +kernel
theorem dX6_fitting_9 : decode cX6_fitting 9 = .ok (.getfield 148, 3) := by decide +kernel
theorem dX6_fitting_12 : decode cX6_fitting 12 = .ok (.if_icmp .ge 29, 3) := by decide +kernel
theorem dX6_fitting_15 : decode cX6_fitting 15 = .ok (.aload_n 0, 1) := by decide +kernel
theorem dX6_fitting_16 : decode cX6_fitting 16 = .ok (.iload_n 2, 1) := by decide +kernel
theorem dX6_fitting_17 : decode cX6_fitting 17 = .ok (.aload_n 0, 1) := by decide +kernel
theorem dX6_fitting_18 : decode cX6_fitting 18 = .ok (.getfield 12, 3) := by decide +kernel
theorem dX6_fitting_21 : decode cX6_fitting 21 = .ok (.getfield 151, 3) := by decide +kernel
theorem dX6_fitting_24 : decode cX6_fitting 24 = .ok (.iload_n 2, 1) := by decide +kernel
theorem dX6_fitting_25 : decode cX6_fitting 25 = .ok (.iaload, 1) := by decide +kernel
theorem dX6_fitting_26 : decode cX6_fitting 26 = .ok (.invokevirtual 154, 3) := by decide +kernel
theorem dX6_fitting_29 : decode cX6_fitting 29 = .ok (.ifCond .eq 6, 3) := by decide +kernel
theorem dX6_fitting_32 : decode cX6_fitting 32 = .ok (.iinc 1 1, 3) := by decide +kernel
theorem dX6_fitting_35 : decode cX6_fitting 35 = .ok (.iinc 2 1, 3) := by decide +kernel
theorem dX6_fitting_38 : decode cX6_fitting 38 = .ok (.goto (-34), 3) := by decide +kernel
theorem dX6_fitting_41 : decode cX6_fitting 41 = .ok (.iload_n 1, 1) := by decide +kernel
theorem dX6_fitting_42 : decode cX6_fitting 42 = .ok (.ireturn, 1) := by decide +kernel
theorem dX6_isOdd_0 : decode cX6_isOdd 0 = .ok (.aload_n 0, 1) := by decide +kernel
theorem dX6_isOdd_1 : decode cX6_isOdd 1 = .ok (.getfield 12, 3) := by decide +kernel
theorem dX6_isOdd_4 : decode cX6_isOdd 4 = .ok (.iload_n 1, 1) := by decide +kernel
theorem dX6_isOdd_5 : decode cX6_isOdd 5 = .ok (.invokevirtual 157, 3) := by decide +kernel
theorem dX6_isOdd_8 : decode cX6_isOdd 8 = .ok (.istore_n 2, 1) := by decide +kernel
theorem dX6_isOdd_9 : decode cX6_isOdd 9 = .ok (.aload_n 0, 1) := by decide +kernel
theorem dX6_isOdd_10 : decode cX6_isOdd 10 = .ok (.getfield 21, 3) := by decide +kernel
theorem dX6_isOdd_13 : decode cX6_isOdd 13 = .ok (.iconst 2, 1) := by decide +kernel
theorem dX6_isOdd_14 : decode cX6_isOdd 14 = .ok (.iconst 0, 1) := by decide +kernel
theorem dX6_isOdd_15 : decode cX6_isOdd 15 = .ok (.invokevirtual 85, 3) := by decide +kernel
theorem dX6_isOdd_18 : decode cX6_isOdd 18 = .ok (.istore_n 3, 1) := by decide +kernel
theorem dX6_isOdd_19 : decode cX6_isOdd 19 = .ok (.iload_n 3, 1) := by decide +kernel
theorem dX6_isOdd_20 : decode cX6_isOdd 20 = .ok (.ldc 89, 2) := by decide +kernel
theorem dX6_isOdd_22 : decode cX6_isOdd 22 = .ok (.if_icmp .ne 22, 3) := by decide +kernel
theorem dX6_isOdd_25 : decode cX6_isOdd 25 = .ok (.iload_n 2, 1) := by decide +kernel
theorem dX6_isOdd_26 : decode cX6_isOdd 26 = .ok (.aload_n 0, 1) := by decide +kernel
theorem dX6_isOdd_27 : decode cX6_isOdd 27 = .ok (.getfield 12, 3) := by decide +kernel
theorem dX6_isOdd_30 : decode cX6_isOdd 30 = .ok (.getfield 148, 3) := by decide +kernel
theorem dX6_isOdd_33 : decode cX6_isOdd 33 = .ok (.iconst 3, 1) := by decide +kernel
theorem dX6_isOdd_34 : decode cX6_isOdd 34 = .ok (.idiv, 1) := by decide +kernel
theorem dX6_isOdd_35 : decode cX6_isOdd 35 = .ok (.if_icmp .le 7, 3) := by decide +kernel
theorem dX6_isOdd_38 : decode cX6_isOdd 38 = .ok (.iconst 1, 1) := by decide +kernel
theorem dX6_isOdd_39 : decode cX6_isOdd 39 = .ok (.goto 4, 3) := by decide +kernel
theorem dX6_isOdd_42 : decode cX6_isOdd 42 = .ok (.iconst 0, 1) := by decide +kernel
theorem dX6_isOdd_43 : decode cX6_isOdd 43 = .ok (.ireturn, 1) := by decide +kernel
theorem dX6_isOdd_44 : decode cX6_isOdd 44 = .ok (.aload_n 0, 1) := by decide +kernel
theorem dX6_isOdd_45 : decode cX6_isOdd 45 = .ok (.getfield 21, 3) := by decide +kernel
theorem dX6_isOdd_48 : decode cX6_isOdd 48 = .ok (.iload_n 3, 1) := by decide +kernel
theorem dX6_isOdd_49 : decode cX6_isOdd 49 = .ok (.iload_n 2, 1) := by decide +kernel
theorem dX6_isOdd_50 : decode cX6_isOdd 50 = .ok (.iload_n 1, 1) := by decide +kernel
theorem dX6_isOdd_51 : decode cX6_isOdd 51 = .ok (.aload_n 0, 1) := by decide +kernel
theorem dX6_isOdd_52 : decode cX6_isOdd 52 = .ok (.getfield 12, 3) := by decide +kernel
theorem dX6_isOdd_55 : decode cX6_isOdd 55 = .ok (.getfield 148, 3) := by decide +kernel
theorem dX6_isOdd_58 : decode cX6_isOdd 58 = .ok (.invokevirtual 90, 3) := by decide +kernel
theorem dX6_isOdd_61 : decode cX6_isOdd 61 = .ok (.ifCond .eq 7, 3) := by decide +kernel
theorem dX6_isOdd_64 : decode cX6_isOdd 64 = .ok (.iconst 1, 1) := by decide +kernel
theorem dX6_isOdd_65 : decode cX6_isOdd 65 = .ok (.goto 4, 3) := by decide +kernel
theorem dX6_isOdd_68 : decode cX6_isOdd 68 = .ok (.iconst 0, 1) := by decide +kernel
theorem dX6_isOdd_69 : decode cX6_isOdd 69 = .ok (.ireturn, 1) := by decide +kernel
theorem dX6_layLine_0 : decode cX6_layLine 0 = .ok (.aload_n 0, 1) := by decide +kernel
theorem dX6_layLine_1 : decode cX6_layLine 1 = .ok (.getfield 28, 3) := by decide +kernel
theorem dX6_layLine_4 : decode cX6_layLine 4 = .ok (.iload_n 1, 1) := by decide +kernel
theorem dX6_layLine_5 : decode cX6_layLine 5 = .ok (.invokevirtual 160, 3) := by decide +kernel
theorem dX6_layLine_8 : decode cX6_layLine 8 = .ok (.istore_n 2, 1) := by decide +kernel
theorem dX6_layLine_9 : decode cX6_layLine 9 = .ok (.iconst 0, 1) := by decide +kernel
theorem dX6_layLine_10 : decode cX6_layLine 10 = .ok (.istore_n 3, 1) := by decide +kernel
theorem dX6_layLine_11 : decode cX6_layLine 11 = .ok (.iload_n 3, 1) := by decide +kernel
theorem dX6_layLine_12 : decode cX6_layLine 12 = .ok (.iload_n 2, 1) := by decide +kernel
theorem dX6_layLine_13 : decode cX6_layLine 13 = .ok (.if_icmp .ge 48, 3) := by decide +kernel
theorem dX6_layLine_16 : decode cX6_layLine 16 = .ok (.aload_n 0, 1) := by decide +kernel
theorem dX6_layLine_17 : decode cX6_layLine 17 = .ok (.getfield 28, 3) := by decide +kernel
theorem dX6_layLine_20 : decode cX6_layLine 20 = .ok (.iload_n 1, 1) := by decide +kernel
theorem dX6_layLine_21 : decode cX6_layLine 21 = .ok (.iload_n 3, 1) := by decide +kernel
theorem dX6_layLine_22 : decode cX6_layLine 22 = .ok (.invokevirtual 163, 3) := by decide +kernel
theorem dX6_layLine_25 : decode cX6_layLine 25 = .ok (.istore 4, 2) := by decide +kernel
theorem dX6_layLine_27 : decode cX6_layLine 27 = .ok (.aload_n 0, 1) := by decide +kernel
theorem dX6_layLine_28 : decode cX6_layLine 28 = .ok (.getfield 12, 3) := by decide +kernel
theorem dX6_layLine_31 : decode cX6_layLine 31 = .ok (.iload 4, 2) := by decide +kernel
theorem dX6_layLine_33 : decode cX6_layLine 33 = .ok (.invokevirtual 114, 3) := by decide +kernel
theorem dX6_layLine_36 : decode cX6_layLine 36 = .ok (.ifCond .eq 19, 3) := by decide +kernel
theorem dX6_layLine_39 : decode cX6_layLine 39 = .ok (.aload_n 0, 1) := by decide +kernel
theorem dX6_layLine_40 : decode cX6_layLine 40 = .ok (.getfield 57, 3) := by decide +kernel
theorem dX6_layLine_43 : decode cX6_layLine 43 = .ok (.iload_n 3, 1) := by decide +kernel
theorem dX6_layLine_44 : decode cX6_layLine 44 = .ok (.aload_n 0, 1) := by decide +kernel
theorem dX6_layLine_45 : decode cX6_layLine 45 = .ok (.getfield 12, 3) := by decide +kernel
theorem dX6_layLine_48 : decode cX6_layLine 48 = .ok (.getfield 118, 3) := by decide +kernel
theorem dX6_layLine_51 : decode cX6_layLine 51 = .ok (.iload 4, 2) := by decide +kernel
theorem dX6_layLine_53 : decode cX6_layLine 53 = .ok (.iaload, 1) := by decide +kernel
theorem dX6_layLine_54 : decode cX6_layLine 54 = .ok (.iastore, 1) := by decide +kernel
theorem dX6_layLine_55 : decode cX6_layLine 55 = .ok (.iinc 3 1, 3) := by decide +kernel
theorem dX6_layLine_58 : decode cX6_layLine 58 = .ok (.goto (-47), 3) := by decide +kernel
theorem dX6_layLine_61 : decode cX6_layLine 61 = .ok (.iload_n 2, 1) := by decide +kernel
theorem dX6_layLine_62 : decode cX6_layLine 62 = .ok (.ireturn, 1) := by decide +kernel
theorem dX6_odds_0 : decode cX6_odds 0 = .ok (.lconst 1, 1) := by decide +kernel
theorem dX6_odds_1 : decode cX6_odds 1 = .ok (.lstore 4, 2) := by decide +kernel
theorem dX6_odds_3 : decode cX6_odds 3 = .ok (.iconst 1, 1) := by decide +kernel
theorem dX6_odds_4 : decode cX6_odds 4 = .ok (.istore 6, 2) := by decide +kernel
theorem dX6_odds_6 : decode cX6_odds 6 = .ok (.iload 6, 2) := by decide +kernel
theorem dX6_odds_8 : decode cX6_odds 8 = .ok (.iload_n 3, 1) := by decide +kernel
theorem dX6_odds_9 : decode cX6_odds 9 = .ok (.if_icmp .ge 57, 3) := by decide +kernel
theorem dX6_odds_12 : decode cX6_odds 12 = .ok (.aload_n 0, 1) := by decide +kernel
theorem dX6_odds_13 : decode cX6_odds 13 = .ok (.getfield 28, 3) := by decide +kernel
theorem dX6_odds_16 : decode cX6_odds 16 = .ok (.iload_n 1, 1) := by decide +kernel
theorem dX6_odds_17 : decode cX6_odds 17 = .ok (.iload_n 2, 1) := by decide +kernel
theorem dX6_odds_18 : decode cX6_odds 18 = .ok (.iload 6, 2) := by decide +kernel
theorem dX6_odds_20 : decode cX6_odds 20 = .ok (.iadd, 1) := by decide +kernel
theorem dX6_odds_21 : decode cX6_odds 21 = .ok (.invokevirtual 163, 3) := by decide +kernel
theorem dX6_odds_24 : decode cX6_odds 24 = .ok (.istore 7, 2) := by decide +kernel
theorem dX6_odds_26 : decode cX6_odds 26 = .ok (.aload_n 0, 1) := by decide +kernel
theorem dX6_odds_27 : decode cX6_odds 27 = .ok (.getfield 12, 3) := by decide +kernel
theorem dX6_odds_30 : decode cX6_odds 30 = .ok (.iload 7, 2) := by decide +kernel
theorem dX6_odds_32 : decode cX6_odds 32 = .ok (.invokevirtual 114, 3) := by decide +kernel
theorem dX6_odds_35 : decode cX6_odds 35 = .ok (.ifCond .eq 25, 3) := by decide +kernel
theorem dX6_odds_38 : decode cX6_odds 38 = .ok (.lload 4, 2) := by decide +kernel
theorem dX6_odds_40 : decode cX6_odds 40 = .ok (.iconst 2, 1) := by decide +kernel
theorem dX6_odds_41 : decode cX6_odds 41 = .ok (.aload_n 0, 1) := by decide +kernel
theorem dX6_odds_42 : decode cX6_odds 42 = .ok (.iload 7, 2) := by decide +kernel
theorem dX6_odds_44 : decode cX6_odds 44 = .ok (.invokevirtual 135, 3) := by decide +kernel
theorem dX6_odds_47 : decode cX6_odds 47 = .ok (.imul, 1) := by decide +kernel
theorem dX6_odds_48 : decode cX6_odds 48 = .ok (.iconst 1, 1) := by decide +kernel
theorem dX6_odds_49 : decode cX6_odds 49 = .ok (.iadd, 1) := by decide +kernel
theorem dX6_odds_50 : decode cX6_odds 50 = .ok (.i2l, 1) := by decide +kernel
theorem dX6_odds_51 : decode cX6_odds 51 = .ok (.lmul, 1) := by decide +kernel
theorem dX6_odds_52 : decode cX6_odds 52 = .ok (.ldc2_w 166, 3) := by decide +kernel
theorem dX6_odds_55 : decode cX6_odds 55 = .ok (.invokestatic 168, 3) := by decide +kernel
theorem dX6_odds_58 : decode cX6_odds 58 = .ok (.lstore 4, 2) := by decide +kernel
theorem dX6_odds_60 : decode cX6_odds 60 = .ok (.iinc 6 1, 3) := by decide +kernel
theorem dX6_odds_63 : decode cX6_odds 63 = .ok (.goto (-57), 3) := by decide +kernel
theorem dX6_odds_66 : decode cX6_odds 66 = .ok (.lload 4, 2) := by decide +kernel
theorem dX6_odds_68 : decode cX6_odds 68 = .ok (.l2i, 1) := by decide +kernel
theorem dX6_odds_69 : decode cX6_odds 69 = .ok (.ireturn, 1) := by decide +kernel
theorem dX6_cheapestKind_0 : decode cX6_cheapestKind 0 = .ok (.bipush 6, 2) := by decide +kernel
theorem dX6_cheapestKind_2 : decode cX6_cheapestKind 2 = .ok (.istore_n 2, 1) := by decide +kernel
theorem dX6_cheapestKind_3 : decode cX6_cheapestKind 3 = .ok (.bipush 7, 2) := by decide +kernel
theorem dX6_cheapestKind_5 : decode cX6_cheapestKind 5 = .ok (.istore_n 3, 1) := by decide +kernel
theorem dX6_cheapestKind_6 : decode cX6_cheapestKind 6 = .ok (.iload_n 3, 1) := by decide +kernel
theorem dX6_cheapestKind_7 : decode cX6_cheapestKind 7 = .ok (.iconst 1, 1) := by decide +kernel
theorem dX6_cheapestKind_8 : decode cX6_cheapestKind 8 = .ok (.if_icmp .lt 46, 3) := by decide +kernel
theorem dX6_cheapestKind_11 : decode cX6_cheapestKind 11 = .ok (.aload_n 0, 1) := by decide +kernel
theorem dX6_cheapestKind_12 : decode cX6_cheapestKind 12 = .ok (.getfield 12, 3) := by decide +kernel
theorem dX6_cheapestKind_15 : decode cX6_cheapestKind 15 = .ok (.getfield 98, 3) := by decide +kernel
theorem dX6_cheapestKind_18 : decode cX6_cheapestKind 18 = .ok (.iload_n 1, 1) := by decide +kernel
theorem dX6_cheapestKind_19 : decode cX6_cheapestKind 19 = .ok (.iaload, 1) := by decide +kernel
theorem dX6_cheapestKind_20 : decode cX6_cheapestKind 20 = .ok (.istore 4, 2) := by decide +kernel
theorem dX6_cheapestKind_22 : decode cX6_cheapestKind 22 = .ok (.aload_n 0, 1) := by decide +kernel
theorem dX6_cheapestKind_23 : decode cX6_cheapestKind 23 = .ok (.iload_n 1, 1) := by decide +kernel
theorem dX6_cheapestKind_24 : decode cX6_cheapestKind 24 = .ok (.iload_n 3, 1) := by decide +kernel
theorem dX6_cheapestKind_25 : decode cX6_cheapestKind 25 = .ok (.invokevirtual 154, 3) := by decide +kernel
theorem dX6_cheapestKind_28 : decode cX6_cheapestKind 28 = .ok (.ifCond .eq 20, 3) := by decide +kernel
theorem dX6_cheapestKind_31 : decode cX6_cheapestKind 31 = .ok (.iload_n 3, 1) := by decide +kernel
theorem dX6_cheapestKind_32 : decode cX6_cheapestKind 32 = .ok (.iload 4, 2) := by decide +kernel
theorem dX6_cheapestKind_34 : decode cX6_cheapestKind 34 = .ok (.invokestatic 172, 3) := by decide +kernel
theorem dX6_cheapestKind_37 : decode cX6_cheapestKind 37 = .ok (.iload_n 2, 1) := by decide +kernel
theorem dX6_cheapestKind_38 : decode cX6_cheapestKind 38 = .ok (.iload 4, 2) := by decide +kernel
theorem dX6_cheapestKind_40 : decode cX6_cheapestKind 40 = .ok (.invokestatic 172, 3) := by decide +kernel
theorem dX6_cheapestKind_43 : decode cX6_cheapestKind 43 = .ok (.if_icmp .gt 5, 3) := by decide +kernel
theorem dX6_cheapestKind_46 : decode cX6_cheapestKind 46 = .ok (.iload_n 3, 1) := by decide +kernel
theorem dX6_cheapestKind_47 : decode cX6_cheapestKind 47 = .ok (.istore_n 2, 1) := by decide +kernel
theorem dX6_cheapestKind_48 : decode cX6_cheapestKind 48 = .ok (.iinc 3 (-1), 3) := by decide +kernel
theorem dX6_cheapestKind_51 : decode cX6_cheapestKind 51 = .ok (.goto (-45), 3) := by decide +kernel
theorem dX6_cheapestKind_54 : decode cX6_cheapestKind 54 = .ok (.iload_n 2, 1) := by decide +kernel
theorem dX6_cheapestKind_55 : decode cX6_cheapestKind 55 = .ok (.ireturn, 1) := by decide +kernel
theorem dX6_draw_0 : decode cX6_draw 0 = .ok (.aload_n 0, 1) := by decide +kernel
theorem dX6_draw_1 : decode cX6_draw 1 = .ok (.aload_n 0, 1) := by decide +kernel
theorem dX6_draw_2 : decode cX6_draw 2 = .ok (.getfield 54, 3) := by decide +kernel
theorem dX6_draw_5 : decode cX6_draw 5 = .ok (.ldc 175, 2) := by decide +kernel
theorem dX6_draw_7 : decode cX6_draw 7 = .ok (.imul, 1) := by decide +kernel
theorem dX6_draw_8 : decode cX6_draw 8 = .ok (.sipush 12345, 3) := by decide +kernel
theorem dX6_draw_11 : decode cX6_draw 11 = .ok (.iadd, 1) := by decide +kernel
theorem dX6_draw_12 : decode cX6_draw 12 = .ok (.putfield 54, 3) := by decide +kernel
theorem dX6_draw_15 : decode cX6_draw 15 = .ok (.aload_n 0, 1) := by decide +kernel
theorem dX6_draw_16 : decode cX6_draw 16 = .ok (.getfield 54, 3) := by decide +kernel
theorem dX6_draw_19 : decode cX6_draw 19 = .ok (.bipush 8, 2) := by decide +kernel
theorem dX6_draw_21 : decode cX6_draw 21 = .ok (.iushr, 1) := by decide +kernel
theorem dX6_draw_22 : decode cX6_draw 22 = .ok (.ireturn, 1) := by decide +kernel
theorem dX6_drawLand_0 : decode cX6_drawLand 0 = .ok (.aload_n 0, 1) := by decide +kernel
theorem dX6_drawLand_1 : decode cX6_drawLand 1 = .ok (.iload_n 2, 1) := by decide +kernel
theorem dX6_drawLand_2 : decode cX6_drawLand 2 = .ok (.iconst 0, 1) := by decide +kernel
theorem dX6_drawLand_3 : decode cX6_drawLand 3 = .ok (.invokevirtual 105, 3) := by decide +kernel
theorem dX6_drawLand_6 : decode cX6_drawLand 6 = .ok (.istore_n 3, 1) := by decide +kernel
theorem dX6_drawLand_7 : decode cX6_drawLand 7 = .ok (.iconst 2, 1) := by decide +kernel
theorem dX6_drawLand_8 : decode cX6_drawLand 8 = .ok (.iload_n 3, 1) := by decide +kernel
theorem dX6_drawLand_9 : decode cX6_drawLand 9 = .ok (.imul, 1) := by decide +kernel
theorem dX6_drawLand_10 : decode cX6_drawLand 10 = .ok (.iconst 1, 1) := by decide +kernel
theorem dX6_drawLand_11 : decode cX6_drawLand 11 = .ok (.iadd, 1) := by decide +kernel
theorem dX6_drawLand_12 : decode cX6_drawLand 12 = .ok (.iconst 1, 1) := by decide +kernel
theorem dX6_drawLand_13 : decode cX6_drawLand 13 = .ok (.invokestatic 176, 3) := by decide +kernel
theorem dX6_drawLand_16 : decode cX6_drawLand 16 = .ok (.istore 4, 2) := by decide +kernel
theorem dX6_drawLand_18 : decode cX6_drawLand 18 = .ok (.iconst 0, 1) := by decide +kernel
theorem dX6_drawLand_19 : decode cX6_drawLand 19 = .ok (.istore 5, 2) := by decide +kernel
theorem dX6_drawLand_21 : decode cX6_drawLand 21 = .ok (.iload 5, 2) := by decide +kernel
theorem dX6_drawLand_23 : decode cX6_drawLand 23 = .ok (.iload_n 1, 1) := by decide +kernel
theorem dX6_drawLand_24 : decode cX6_drawLand 24 = .ok (.if_icmp .ge 44, 3) := by decide +kernel
theorem dX6_drawLand_27 : decode cX6_drawLand 27 = .ok (.iload 5, 2) := by decide +kernel
theorem dX6_drawLand_29 : decode cX6_drawLand 29 = .ok (.bipush 12, 2) := by decide +kernel
theorem dX6_drawLand_31 : decode cX6_drawLand 31 = .ok (.if_icmp .ge 37, 3) := by decide +kernel
theorem dX6_drawLand_34 : decode cX6_drawLand 34 = .ok (.aload_n 0, 1) := by decide +kernel
theorem dX6_drawLand_35 : decode cX6_drawLand 35 = .ok (.getfield 57, 3) := by decide +kernel
theorem dX6_drawLand_38 : decode cX6_drawLand 38 = .ok (.iload 5, 2) := by decide +kernel
theorem dX6_drawLand_40 : decode cX6_drawLand 40 = .ok (.aload_n 0, 1) := by decide +kernel
theorem dX6_drawLand_41 : decode cX6_drawLand 41 = .ok (.getfield 50, 3) := by decide +kernel
theorem dX6_drawLand_44 : decode cX6_drawLand 44 = .ok (.iload_n 3, 1) := by decide +kernel
theorem dX6_drawLand_45 : decode cX6_drawLand 45 = .ok (.isub, 1) := by decide +kernel
theorem dX6_drawLand_46 : decode cX6_drawLand 46 = .ok (.aload_n 0, 1) := by decide +kernel
theorem dX6_drawLand_47 : decode cX6_drawLand 47 = .ok (.invokevirtual 179, 3) := by decide +kernel
theorem dX6_drawLand_50 : decode cX6_drawLand 50 = .ok (.iload 4, 2) := by decide +kernel
theorem dX6_drawLand_52 : decode cX6_drawLand 52 = .ok (.irem, 1) := by decide +kernel
theorem dX6_drawLand_53 : decode cX6_drawLand 53 = .ok (.iadd, 1) := by decide +kernel
theorem dX6_drawLand_54 : decode cX6_drawLand 54 = .ok (.iconst 0, 1) := by decide +kernel
theorem dX6_drawLand_55 : decode cX6_drawLand 55 = .ok (.sipush 9999, 3) := by decide +kernel
theorem dX6_drawLand_58 : decode cX6_drawLand 58 = .ok (.invokestatic 94, 3) := by decide +kernel
theorem dX6_drawLand_61 : decode cX6_drawLand 61 = .ok (.iastore, 1) := by decide +kernel
theorem dX6_drawLand_62 : decode cX6_drawLand 62 = .ok (.iinc 5 1, 3) := by decide +kernel
theorem dX6_drawLand_65 : decode cX6_drawLand 65 = .ok (.goto (-44), 3) := by decide +kernel
theorem dX6_drawLand_68 : decode cX6_drawLand 68 = .ok (.return_, 1) := by decide +kernel
theorem dX7_init_0 : decode cX7_init 0 = .ok (.aload_n 0, 1) := by decide +kernel
theorem dX7_init_1 : decode cX7_init 1 = .ok (.invokespecial 3, 3) := by decide +kernel
theorem dX7_init_4 : decode cX7_init 4 = .ok (.aload_n 0, 1) := by decide +kernel
theorem dX7_init_5 : decode cX7_init 5 = .ok (.bipush 96, 2) := by decide +kernel
theorem dX7_init_7 : decode cX7_init 7 = .ok (.newarray .byte, 2) := by decide +kernel
theorem dX7_init_9 : decode cX7_init 9 = .ok (.putfield 9, 3) := by decide +kernel
theorem dX7_init_12 : decode cX7_init 12 = .ok (.aload_n 0, 1) := by decide +kernel
theorem dX7_init_13 : decode cX7_init 13 = .ok (.bipush 96, 2) := by decide +kernel
theorem dX7_init_15 : decode cX7_init 15 = .ok (.newarray .int, 2) := by decide +kernel
theorem dX7_init_17 : decode cX7_init 17 = .ok (.putfield 15, 3) := by decide +kernel
theorem dX7_init_20 : decode cX7_init 20 = .ok (.return_, 1) := by decide +kernel
theorem dX7_add_0 : decode cX7_add 0 = .ok (.bipush 24, 2) := by decide +kernel
theorem dX7_add_2 : decode cX7_add 2 = .ok (.istore_n 2, 1) := by decide +kernel
theorem dX7_add_3 : decode cX7_add 3 = .ok (.iload_n 2, 1) := by decide +kernel
theorem dX7_add_4 : decode cX7_add 4 = .ok (.ifCond .lt 41, 3) := by decide +kernel
theorem dX7_add_7 : decode cX7_add 7 = .ok (.aload_n 0, 1) := by decide +kernel
theorem dX7_add_8 : decode cX7_add 8 = .ok (.getfield 19, 3) := by decide +kernel
theorem dX7_add_11 : decode cX7_add 11 = .ok (.bipush 96, 2) := by decide +kernel
theorem dX7_add_13 : decode cX7_add 13 = .ok (.if_icmp .ge 32, 3) := by decide +kernel
theorem dX7_add_16 : decode cX7_add 16 = .ok (.aload_n 0, 1) := by decide +kernel
theorem dX7_add_17 : decode cX7_add 17 = .ok (.getfield 9, 3) := by decide +kernel
theorem dX7_add_20 : decode cX7_add 20 = .ok (.aload_n 0, 1) := by decide +kernel
theorem dX7_add_21 : decode cX7_add 21 = .ok (.getfield 19, 3) := by decide +kernel
theorem dX7_add_24 : decode cX7_add 24 = .ok (.iload_n 1, 1) := by decide +kernel
theorem dX7_add_25 : decode cX7_add 25 = .ok (.iload_n 2, 1) := by decide +kernel
theorem dX7_add_26 : decode cX7_add 26 = .ok (.iushr, 1) := by decide +kernel
theorem dX7_add_27 : decode cX7_add 27 = .ok (.i2b, 1) := by decide +kernel
theorem dX7_add_28 : decode cX7_add 28 = .ok (.bastore, 1) := by decide +kernel
theorem dX7_add_29 : decode cX7_add 29 = .ok (.aload_n 0, 1) := by decide +kernel
theorem dX7_add_30 : decode cX7_add 30 = .ok (.dup, 1) := by decide +kernel
theorem dX7_add_31 : decode cX7_add 31 = .ok (.getfield 19, 3) := by decide +kernel
theorem dX7_add_34 : decode cX7_add 34 = .ok (.iconst 1, 1) := by decide +kernel
theorem dX7_add_35 : decode cX7_add 35 = .ok (.iadd, 1) := by decide +kernel
theorem dX7_add_36 : decode cX7_add 36 = .ok (.putfield 19, 3) := by decide +kernel
theorem dX7_add_39 : decode cX7_add 39 = .ok (.iinc 2 (-8), 3) := by decide +kernel
theorem dX7_add_42 : decode cX7_add 42 = .ok (.goto (-39), 3) := by decide +kernel
theorem dX7_add_45 : decode cX7_add 45 = .ok (.return_, 1) := by decide +kernel
theorem dX7_readText_0 : decode cX7_readText 0 = .ok (.aload_n 0, 1) := by decide +kernel
theorem dX7_readText_1 : decode cX7_readText 1 = .ok (.iconst (-1), 1) := by decide +kernel
theorem dX7_readText_2 : decode cX7_readText 2 = .ok (.putfield 23, 3) := by decide +kernel
theorem dX7_readText_5 : decode cX7_readText 5 = .ok (.aload_n 0, 1) := by decide +kernel
theorem dX7_readText_6 : decode cX7_readText 6 = .ok (.iconst 0, 1) := by decide +kernel
theorem dX7_readText_7 : decode cX7_readText 7 = .ok (.putfield 26, 3) := by decide +kernel
theorem dX7_readText_10 : decode cX7_readText 10 = .ok (.aload_n 0, 1) := by decide +kernel
theorem dX7_readText_11 : decode cX7_readText 11 = .ok (.iconst 0, 1) := by decide +kernel
theorem dX7_readText_12 : decode cX7_readText 12 = .ok (.putfield 29, 3) := by decide +kernel
theorem dX7_readText_15 : decode cX7_readText 15 = .ok (.aload_n 0, 1) := by decide +kernel
theorem dX7_readText_16 : decode cX7_readText 16 = .ok (.iconst 0, 1) := by decide +kernel
theorem dX7_readText_17 : decode cX7_readText 17 = .ok (.putfield 32, 3) := by decide +kernel
theorem dX7_readText_20 : decode cX7_readText 20 = .ok (.aload_n 0, 1) := by decide +kernel
theorem dX7_readText_21 : decode cX7_readText 21 = .ok (.iconst 3, 1) := by decide +kernel
theorem dX7_readText_22 : decode cX7_readText 22 = .ok (.putfield 35, 3) := by decide +kernel
theorem dX7_readText_25 : decode cX7_readText 25 = .ok (.aload_n 0, 1) := by decide +kernel
theorem dX7_readText_26 : decode cX7_readText 26 = .ok (.invokevirtual 38, 3) := by decide +kernel
theorem dX7_readText_29 : decode cX7_readText 29 = .ok (.aload_n 0, 1) := by decide +kernel
theorem dX7_readText_30 : decode cX7_readText 30 = .ok (.invokevirtual 41, 3) := by decide +kernel
theorem dX7_readText_33 : decode cX7_readText 33 = .ok (.aload_n 0, 1) := by decide +kernel
theorem dX7_readText_34 : decode cX7_readText 34 = .ok (.getfield 23, 3) := by decide +kernel
theorem dX7_readText_37 : decode cX7_readText 37 = .ok (.ifCond .ge 10, 3) := by decide +kernel
theorem dX7_readText_40 : decode cX7_readText 40 = .ok (.aload_n 0, 1) := by decide +kernel
theorem dX7_readText_41 : decode cX7_readText 41 = .ok (.iconst 0, 1) := by decide +kernel
theorem dX7_readText_42 : decode cX7_readText 42 = .ok (.iconst 0, 1) := by decide +kernel
theorem dX7_readText_43 : decode cX7_readText 43 = .ok (.iconst 0, 1) := by decide +kernel
theorem dX7_readText_44 : decode cX7_readText 44 = .ok (.invokevirtual 44, 3) := by decide +kernel
theorem dX7_readText_47 : decode cX7_readText 47 = .ok (.aload_n 0, 1) := by decide +kernel
theorem dX7_readText_48 : decode cX7_readText 48 = .ok (.getfield 23, 3) := by decide +kernel
theorem dX7_readText_51 : decode cX7_readText 51 = .ok (.ifCond .ge 18, 3) := by decide +kernel
theorem dX7_readText_54 : decode cX7_readText 54 = .ok (.aload_n 0, 1) := by decide +kernel
theorem dX7_readText_55 : decode cX7_readText 55 = .ok (.getfield 35, 3) := by decide +kernel
theorem dX7_readText_58 : decode cX7_readText 58 = .ok (.ifCond .eq 11, 3) := by decide +kernel
theorem dX7_readText_61 : decode cX7_readText 61 = .ok (.aload_n 0, 1) := by decide +kernel
theorem dX7_readText_62 : decode cX7_readText 62 = .ok (.aload_n 0, 1) := by decide +kernel
theorem dX7_readText_63 : decode cX7_readText 63 = .ok (.getfield 48, 3) := by decide +kernel
theorem dX7_readText_66 : decode cX7_readText 66 = .ok (.putfield 23, 3) := by decide +kernel
theorem dX7_readText_69 : decode cX7_readText 69 = .ok (.return_, 1) := by decide +kernel
theorem dX7_readHead_0 : decode cX7_readHead 0 = .ok (.aload_n 0, 1) := by decide +kernel
theorem dX7_readHead_1 : decode cX7_readHead 1 = .ok (.aload_n 0, 1) := by decide +kernel
theorem dX7_readHead_2 : decode cX7_readHead 2 = .ok (.invokevirtual 51, 3) := by decide +kernel
theorem dX7_readHead_5 : decode cX7_readHead 5 = .ok (.putfield 55, 3) := by decide +kernel
theorem dX7_readHead_8 : decode cX7_readHead 8 = .ok (.aload_n 0, 1) := by decide +kernel
theorem dX7_readHead_9 : decode cX7_readHead 9 = .ok (.ldc 58, 2) := by decide +kernel
theorem dX7_readHead_11 : decode cX7_readHead 11 = .ok (.putfield 59, 3) := by decide +kernel
theorem dX7_readHead_14 : decode cX7_readHead 14 = .ok (.aload_n 0, 1) := by decide +kernel
theorem dX7_readHead_15 : decode cX7_readHead 15 = .ok (.getfield 55, 3) := by decide +kernel
theorem dX7_readHead_18 : decode cX7_readHead 18 = .ok (.ifCond .ge 12, 3) := by decide +kernel
theorem dX7_readHead_21 : decode cX7_readHead 21 = .ok (.aload_n 0, 1) := by decide +kernel
theorem dX7_readHead_22 : decode cX7_readHead 22 = .ok (.aload_n 0, 1) := by decide +kernel
theorem dX7_readHead_23 : decode cX7_readHead 23 = .ok (.getfield 48, 3) := by decide +kernel
theorem dX7_readHead_26 : decode cX7_readHead 26 = .ok (.putfield 23, 3) := by decide +kernel
theorem dX7_readHead_29 : decode cX7_readHead 29 = .ok (.return_, 1) := by decide +kernel
theorem dX7_readHead_30 : decode cX7_readHead 30 = .ok (.aload_n 0, 1) := by decide +kernel
theorem dX7_readHead_31 : decode cX7_readHead 31 = .ok (.invokevirtual 38, 3) := by decide +kernel
theorem dX7_readHead_34 : decode cX7_readHead 34 = .ok (.aload_n 0, 1) := by decide +kernel
theorem dX7_readHead_35 : decode cX7_readHead 35 = .ok (.getfield 55, 3) := by decide +kernel
theorem dX7_readHead_38 : decode cX7_readHead 38 = .ok (.ifCond .eq 4, 3) := by decide +kernel
theorem dX7_readHead_41 : decode cX7_readHead 41 = .ok (.return_, 1) := by decide +kernel
theorem dX7_readHead_42 : decode cX7_readHead 42 = .ok (.aload_n 0, 1) := by decide +kernel
theorem dX7_readHead_43 : decode cX7_readHead 43 = .ok (.invokevirtual 62, 3) := by decide +kernel
theorem dX7_readHead_46 : decode cX7_readHead 46 = .ok (.ifCond .eq 12, 3) := by decide +kernel
theorem dX7_readHead_49 : decode cX7_readHead 49 = .ok (.aload_n 0, 1) := by decide +kernel
theorem dX7_readHead_50 : decode cX7_readHead 50 = .ok (.invokevirtual 66, 3) := by decide +kernel
theorem dX7_readHead_53 : decode cX7_readHead 53 = .ok (.bipush 12, 2) := by decide +kernel
theorem dX7_readHead_55 : decode cX7_readHead 55 = .ok (.if_icmp .lt 12, 3) := by decide +kernel
theorem dX7_readHead_58 : decode cX7_readHead 58 = .ok (.aload_n 0, 1) := by decide +kernel
theorem dX7_readHead_59 : decode cX7_readHead 59 = .ok (.aload_n 0, 1) := by decide +kernel
theorem dX7_readHead_60 : decode cX7_readHead 60 = .ok (.getfield 48, 3) := by decide +kernel
theorem dX7_readHead_63 : decode cX7_readHead 63 = .ok (.putfield 23, 3) := by decide +kernel
theorem dX7_readHead_66 : decode cX7_readHead 66 = .ok (.return_, 1) := by decide +kernel
theorem dX7_readHead_67 : decode cX7_readHead 67 = .ok (.aload_n 0, 1) := by decide +kernel
theorem dX7_readHead_68 : decode cX7_readHead 68 = .ok (.aload_n 0, 1) := by decide +kernel
theorem dX7_readHead_69 : decode cX7_readHead 69 = .ok (.invokevirtual 66, 3) := by decide +kernel
theorem dX7_readHead_72 : decode cX7_readHead 72 = .ok (.putfield 59, 3) := by decide +kernel
theorem dX7_readHead_75 : decode cX7_readHead 75 = .ok (.aload_n 0, 1) := by decide +kernel
theorem dX7_readHead_76 : decode cX7_readHead 76 = .ok (.invokevirtual 38, 3) := by decide +kernel
theorem dX7_readHead_79 : decode cX7_readHead 79 = .ok (.return_, 1) := by decide +kernel
theorem dX7_readLevel_0 : decode cX7_readLevel 0 = .ok (.iload_n 1, 1) := by decide +kernel
theorem dX7_readLevel_1 : decode cX7_readLevel 1 = .ok (.iconst 5, 1) := by decide +kernel
theorem dX7_readLevel_2 : decode cX7_readLevel 2 = .ok (.if_icmp .lt 10, 3) := by decide +kernel
theorem dX7_readLevel_5 : decode cX7_readLevel 5 = .ok (.aload_n 0, 1) := by decide +kernel
theorem dX7_readLevel_6 : decode cX7_readLevel 6 = .ok (.iload_n 2, 1) := by decide +kernel
theorem dX7_readLevel_7 : decode cX7_readLevel 7 = .ok (.iload_n 3, 1) := by decide +kernel
theorem dX7_readLevel_8 : decode cX7_readLevel 8 = .ok (.invokevirtual 69, 3) := by decide +kernel
theorem dX7_readLevel_11 : decode cX7_readLevel 11 = .ok (.return_, 1) := by decide +kernel
theorem dX7_readLevel_12 : decode cX7_readLevel 12 = .ok (.aload_n 0, 1) := by decide +kernel
theorem dX7_readLevel_13 : decode cX7_readLevel 13 = .ok (.iload_n 1, 1) := by decide +kernel
theorem dX7_readLevel_14 : decode cX7_readLevel 14 = .ok (.iconst 1, 1) := by decide +kernel
theorem dX7_readLevel_15 : decode cX7_readLevel 15 = .ok (.iadd, 1) := by decide +kernel
theorem dX7_readLevel_16 : decode cX7_readLevel 16 = .ok (.iload_n 2, 1) := by decide +kernel
theorem dX7_readLevel_17 : decode cX7_readLevel 17 = .ok (.iload_n 3, 1) := by decide +kernel
theorem dX7_readLevel_18 : decode cX7_readLevel 18 = .ok (.invokevirtual 44, 3) := by decide +kernel
theorem dX7_readLevel_21 : decode cX7_readLevel 21 = .ok (.iload_n 1, 1) := by decide +kernel
theorem dX7_readLevel_22 : decode cX7_readLevel 22 = .ok (.iconst 2, 1) := by decide +kernel
theorem dX7_readLevel_23 : decode cX7_readLevel 23 = .ok (.if_icmp .ne 7, 3) := by decide +kernel
theorem dX7_readLevel_26 : decode cX7_readLevel 26 = .ok (.iconst 1, 1) := by decide +kernel
theorem dX7_readLevel_27 : decode cX7_readLevel 27 = .ok (.goto 5, 3) := by decide +kernel
theorem dX7_readLevel_30 : decode cX7_readLevel 30 = .ok (.bipush 96, 2) := by decide +kernel
theorem dX7_readLevel_32 : decode cX7_readLevel 32 = .ok (.istore 4, 2) := by decide +kernel
theorem dX7_readLevel_34 : decode cX7_readLevel 34 = .ok (.iconst 0, 1) := by decide +kernel
theorem dX7_readLevel_35 : decode cX7_readLevel 35 = .ok (.istore 5, 2) := by decide +kernel
theorem dX7_readLevel_37 : decode cX7_readLevel 37 = .ok (.iload 5, 2) := by decide +kernel
theorem dX7_readLevel_39 : decode cX7_readLevel 39 = .ok (.iload 4, 2) := by decide +kernel
theorem dX7_readLevel_41 : decode cX7_readLevel 41 = .ok (.if_icmp .ge 53, 3) := by decide +kernel
theorem dX7_readLevel_44 : decode cX7_readLevel 44 = .ok (.aload_n 0, 1) := by decide +kernel
theorem dX7_readLevel_45 : decode cX7_readLevel 45 = .ok (.getfield 23, 3) := by decide +kernel
theorem dX7_readLevel_48 : decode cX7_readLevel 48 = .ok (.ifCond .ge 46, 3) := by decide +kernel
theorem dX7_readLevel_51 : decode cX7_readLevel 51 = .ok (.iload_n 1, 1) := by decide +kernel
theorem dX7_readLevel_52 : decode cX7_readLevel 52 = .ok (.aload_n 0, 1) := by decide +kernel
theorem dX7_readLevel_53 : decode cX7_readLevel 53 = .ok (.invokevirtual 73, 3) := by decide +kernel
theorem dX7_readLevel_56 : decode cX7_readLevel 56 = .ok (.invokestatic 76, 3) := by decide +kernel
theorem dX7_readLevel_59 : decode cX7_readLevel 59 = .ok (.ifCond .eq 35, 3) := by decide +kernel
theorem dX7_readLevel_62 : decode cX7_readLevel 62 = .ok (.aload_n 0, 1) := by decide +kernel
theorem dX7_readLevel_63 : decode cX7_readLevel 63 = .ok (.invokevirtual 73, 3) := by decide +kernel
theorem dX7_readLevel_66 : decode cX7_readLevel 66 = .ok (.istore 6, 2) := by decide +kernel
theorem dX7_readLevel_68 : decode cX7_readLevel 68 = .ok (.aload_n 0, 1) := by decide +kernel
theorem dX7_readLevel_69 : decode cX7_readLevel 69 = .ok (.invokevirtual 38, 3) := by decide +kernel
theorem dX7_readLevel_72 : decode cX7_readLevel 72 = .ok (.aload_n 0, 1) := by decide +kernel
theorem dX7_readLevel_73 : decode cX7_readLevel 73 = .ok (.iload_n 1, 1) := by decide +kernel
theorem dX7_readLevel_74 : decode cX7_readLevel 74 = .ok (.iconst 1, 1) := by decide +kernel
theorem dX7_readLevel_75 : decode cX7_readLevel 75 = .ok (.iadd, 1) := by decide +kernel
theorem dX7_readLevel_76 : decode cX7_readLevel 76 = .ok (.iload_n 2, 1) := by decide +kernel
theorem dX7_readLevel_77 : decode cX7_readLevel 77 = .ok (.iload_n 3, 1) := by decide +kernel
theorem dX7_readLevel_78 : decode cX7_readLevel 78 = .ok (.invokevirtual 44, 3) := by decide +kernel
theorem dX7_readLevel_81 : decode cX7_readLevel 81 = .ok (.aload_n 0, 1) := by decide +kernel
theorem dX7_readLevel_82 : decode cX7_readLevel 82 = .ok (.iload 6, 2) := by decide +kernel
theorem dX7_readLevel_84 : decode cX7_readLevel 84 = .ok (.ineg, 1) := by decide +kernel
theorem dX7_readLevel_85 : decode cX7_readLevel 85 = .ok (.invokevirtual 80, 3) := by decide +kernel
theorem dX7_readLevel_88 : decode cX7_readLevel 88 = .ok (.iinc 5 1, 3) := by decide +kernel
theorem dX7_readLevel_91 : decode cX7_readLevel 91 = .ok (.goto (-54), 3) := by decide +kernel
theorem dX7_readLevel_94 : decode cX7_readLevel 94 = .ok (.return_, 1) := by decide +kernel
theorem dX7_readPiece_0 : decode cX7_readPiece 0 = .ok (.aload_n 0, 1) := by decide +kernel
theorem dX7_readPiece_1 : decode cX7_readPiece 1 = .ok (.invokevirtual 73, 3) := by decide +kernel
theorem dX7_readPiece_4 : decode cX7_readPiece 4 = .ok (.istore_n 3, 1) := by decide +kernel
theorem dX7_readPiece_5 : decode cX7_readPiece 5 = .ok (.iload_n 3, 1) := by decide +kernel
theorem dX7_readPiece_6 : decode cX7_readPiece 6 = .ok (.bipush 33, 2) := by decide +kernel
theorem dX7_readPiece_8 : decode cX7_readPiece 8 = .ok (.if_icmp .ne 30, 3) := by decide +kernel
theorem dX7_readPiece_11 : decode cX7_readPiece 11 = .ok (.iload_n 2, 1) := by decide +kernel
theorem dX7_readPiece_12 : decode cX7_readPiece 12 = .ok (.bipush 8, 2) := by decide +kernel
theorem dX7_readPiece_14 : decode cX7_readPiece 14 = .ok (.if_icmp .ge 24, 3) := by decide +kernel
theorem dX7_readPiece_17 : decode cX7_readPiece 17 = .ok (.aload_n 0, 1) := by decide +kernel
theorem dX7_readPiece_18 : decode cX7_readPiece 18 = .ok (.invokevirtual 38, 3) := by decide +kernel
theorem dX7_readPiece_21 : decode cX7_readPiece 21 = .ok (.aload_n 0, 1) := by decide +kernel
theorem dX7_readPiece_22 : decode cX7_readPiece 22 = .ok (.iload_n 1, 1) := by decide +kernel
theorem dX7_readPiece_23 : decode cX7_readPiece 23 = .ok (.iload_n 2, 1) := by decide +kernel
theorem dX7_readPiece_24 : decode cX7_readPiece 24 = .ok (.iconst 1, 1) := by decide +kernel
theorem dX7_readPiece_25 : decode cX7_readPiece 25 = .ok (.iadd, 1) := by decide +kernel
theorem dX7_readPiece_26 : decode cX7_readPiece 26 = .ok (.invokevirtual 69, 3) := by decide +kernel
theorem dX7_readPiece_29 : decode cX7_readPiece 29 = .ok (.aload_n 0, 1) := by decide +kernel
theorem dX7_readPiece_30 : decode cX7_readPiece 30 = .ok (.iload_n 3, 1) := by decide +kernel
theorem dX7_readPiece_31 : decode cX7_readPiece 31 = .ok (.ineg, 1) := by decide +kernel
theorem dX7_readPiece_32 : decode cX7_readPiece 32 = .ok (.invokevirtual 80, 3) := by decide +kernel
theorem dX7_readPiece_35 : decode cX7_readPiece 35 = .ok (.goto 46, 3) := by decide +kernel
theorem dX7_readPiece_38 : decode cX7_readPiece 38 = .ok (.iload_n 3, 1) := by decide +kernel
theorem dX7_readPiece_39 : decode cX7_readPiece 39 = .ok (.bipush 40, 2) := by decide +kernel
theorem dX7_readPiece_41 : decode cX7_readPiece 41 = .ok (.if_icmp .ne 36, 3) := by decide +kernel
theorem dX7_readPiece_44 : decode cX7_readPiece 44 = .ok (.iload_n 1, 1) := by decide +kernel
theorem dX7_readPiece_45 : decode cX7_readPiece 45 = .ok (.bipush 8, 2) := by decide +kernel
theorem dX7_readPiece_47 : decode cX7_readPiece 47 = .ok (.if_icmp .ge 30, 3) := by decide +kernel
theorem dX7_readPiece_50 : decode cX7_readPiece 50 = .ok (.aload_n 0, 1) := by decide +kernel
theorem dX7_readPiece_51 : decode cX7_readPiece 51 = .ok (.invokevirtual 38, 3) := by decide +kernel
theorem dX7_readPiece_54 : decode cX7_readPiece 54 = .ok (.aload_n 0, 1) := by decide +kernel
theorem dX7_readPiece_55 : decode cX7_readPiece 55 = .ok (.iconst 0, 1) := by decide +kernel
theorem dX7_readPiece_56 : decode cX7_readPiece 56 = .ok (.iload_n 1, 1) := by decide +kernel
theorem dX7_readPiece_57 : decode cX7_readPiece 57 = .ok (.iconst 1, 1) := by decide +kernel
theorem dX7_readPiece_58 : decode cX7_readPiece 58 = .ok (.iadd, 1) := by decide +kernel
theorem dX7_readPiece_59 : decode cX7_readPiece 59 = .ok (.iload_n 2, 1) := by decide +kernel
theorem dX7_readPiece_60 : decode cX7_readPiece 60 = .ok (.invokevirtual 44, 3) := by decide +kernel
theorem dX7_readPiece_63 : decode cX7_readPiece 63 = .ok (.aload_n 0, 1) := by decide +kernel
theorem dX7_readPiece_64 : decode cX7_readPiece 64 = .ok (.getfield 23, 3) := by decide +kernel
theorem dX7_readPiece_67 : decode cX7_readPiece 67 = .ok (.ifCond .ge 14, 3) := by decide +kernel
theorem dX7_readPiece_70 : decode cX7_readPiece 70 = .ok (.aload_n 0, 1) := by decide +kernel
theorem dX7_readPiece_71 : decode cX7_readPiece 71 = .ok (.invokevirtual 84, 3) := by decide +kernel
theorem dX7_readPiece_74 : decode cX7_readPiece 74 = .ok (.goto 7, 3) := by decide +kernel
theorem dX7_readPiece_77 : decode cX7_readPiece 77 = .ok (.aload_n 0, 1) := by decide +kernel
theorem dX7_readPiece_78 : decode cX7_readPiece 78 = .ok (.invokevirtual 87, 3) := by decide +kernel
theorem dX7_readPiece_81 : decode cX7_readPiece 81 = .ok (.return_, 1) := by decide +kernel
theorem dX7_readClosing_0 : decode cX7_readClosing 0 = .ok (.aload_n 0, 1) := by decide +kernel
theorem dX7_readClosing_1 : decode cX7_readClosing 1 = .ok (.invokevirtual 73, 3) := by decide +kernel
theorem dX7_readClosing_4 : decode cX7_readClosing 4 = .ok (.bipush 41, 2) := by decide +kernel
theorem dX7_readClosing_6 : decode cX7_readClosing 6 = .ok (.if_icmp .ne 10, 3) := by decide +kernel
theorem dX7_readClosing_9 : decode cX7_readClosing 9 = .ok (.aload_n 0, 1) := by decide +kernel
theorem dX7_readClosing_10 : decode cX7_readClosing 10 = .ok (.invokevirtual 38, 3) := by decide +kernel
theorem dX7_readClosing_13 : decode cX7_readClosing 13 = .ok (.goto 11, 3) := by decide +kernel
theorem dX7_readClosing_16 : decode cX7_readClosing 16 = .ok (.aload_n 0, 1) := by decide +kernel
theorem dX7_readClosing_17 : decode cX7_readClosing 17 = .ok (.aload_n 0, 1) := by decide +kernel
theorem dX7_readClosing_18 : decode cX7_readClosing 18 = .ok (.getfield 48, 3) := by decide +kernel
theorem dX7_readClosing_21 : decode cX7_readClosing 21 = .ok (.putfield 23, 3) := by decide +kernel
theorem dX7_readClosing_24 : decode cX7_readClosing 24 = .ok (.return_, 1) := by decide +kernel
theorem dX7_readLeaf_0 : decode cX7_readLeaf 0 = .ok (.aload_n 0, 1) := by decide +kernel
theorem dX7_readLeaf_1 : decode cX7_readLeaf 1 = .ok (.invokevirtual 90, 3) := by decide +kernel
theorem dX7_readLeaf_4 : decode cX7_readLeaf 4 = .ok (.istore_n 1, 1) := by decide +kernel
theorem dX7_readLeaf_5 : decode cX7_readLeaf 5 = .ok (.aload_n 0, 1) := by decide +kernel
theorem dX7_readLeaf_6 : decode cX7_readLeaf 6 = .ok (.invokevirtual 62, 3) := by decide +kernel
theorem dX7_readLeaf_9 : decode cX7_readLeaf 9 = .ok (.ifCond .eq 14, 3) := by decide +kernel
theorem dX7_readLeaf_12 : decode cX7_readLeaf 12 = .ok (.aload_n 0, 1) := by decide +kernel
theorem dX7_readLeaf_13 : decode cX7_readLeaf 13 = .ok (.aload_n 0, 1) := by decide +kernel
theorem dX7_readLeaf_14 : decode cX7_readLeaf 14 = .ok (.invokevirtual 66, 3) := by decide +kernel
theorem dX7_readLeaf_17 : decode cX7_readLeaf 17 = .ok (.invokevirtual 80, 3) := by decide +kernel
theorem dX7_readLeaf_20 : decode cX7_readLeaf 20 = .ok (.goto 26, 3) := by decide +kernel
theorem dX7_readLeaf_23 : decode cX7_readLeaf 23 = .ok (.iload_n 1, 1) := by decide +kernel
theorem dX7_readLeaf_24 : decode cX7_readLeaf 24 = .ok (.ifCond .lt 13, 3) := by decide +kernel
theorem dX7_readLeaf_27 : decode cX7_readLeaf 27 = .ok (.aload_n 0, 1) := by decide +kernel
theorem dX7_readLeaf_28 : decode cX7_readLeaf 28 = .ok (.iconst (-1), 1) := by decide +kernel
theorem dX7_readLeaf_29 : decode cX7_readLeaf 29 = .ok (.iload_n 1, 1) := by decide +kernel
theorem dX7_readLeaf_30 : decode cX7_readLeaf 30 = .ok (.isub, 1) := by decide +kernel
theorem dX7_readLeaf_31 : decode cX7_readLeaf 31 = .ok (.invokevirtual 80, 3) := by decide +kernel
theorem dX7_readLeaf_34 : decode cX7_readLeaf 34 = .ok (.goto 12, 3) := by decide +kernel
theorem dX7_readLeaf_37 : decode cX7_readLeaf 37 = .ok (.aload_n 0, 1) := by decide +kernel
theorem dX7_readLeaf_38 : decode cX7_readLeaf 38 = .ok (.aload_n 0, 1) := by decide +kernel
theorem dX7_readLeaf_39 : decode cX7_readLeaf 39 = .ok (.getfield 48, 3) := by decide +kernel
theorem dX7_readLeaf_42 : decode cX7_readLeaf 42 = .ok (.putfield 23, 3) := by decide +kernel
theorem dX7_readLeaf_45 : decode cX7_readLeaf 45 = .ok (.return_, 1) := by decide +kernel
theorem dX7_readLeaf_46 : decode cX7_readLeaf 46 = .ok (.aload_n 0, 1) := by decide +kernel
theorem dX7_readLeaf_47 : decode cX7_readLeaf 47 = .ok (.dup, 1) := by decide +kernel
theorem dX7_readLeaf_48 : decode cX7_readLeaf 48 = .ok (.getfield 29, 3) := by decide +kernel
theorem dX7_readLeaf_51 : decode cX7_readLeaf 51 = .ok (.iconst 1, 1) := by decide +kernel
theorem dX7_readLeaf_52 : decode cX7_readLeaf 52 = .ok (.iadd, 1) := by decide +kernel
theorem dX7_readLeaf_53 : decode cX7_readLeaf 53 = .ok (.putfield 29, 3) := by decide +kernel
theorem dX7_readLeaf_56 : decode cX7_readLeaf 56 = .ok (.aload_n 0, 1) := by decide +kernel
theorem dX7_readLeaf_57 : decode cX7_readLeaf 57 = .ok (.invokevirtual 38, 3) := by decide +kernel
theorem dX7_readLeaf_60 : decode cX7_readLeaf 60 = .ok (.return_, 1) := by decide +kernel
theorem dX7_put_0 : decode cX7_put 0 = .ok (.aload_n 0, 1) := by decide +kernel
theorem dX7_put_1 : decode cX7_put 1 = .ok (.getfield 26, 3) := by decide +kernel
theorem dX7_put_4 : decode cX7_put 4 = .ok (.bipush 96, 2) := by decide +kernel
theorem dX7_put_6 : decode cX7_put 6 = .ok (.if_icmp .lt 4, 3) := by decide +kernel
theorem dX7_put_9 : decode cX7_put 9 = .ok (.return_, 1) := by decide +kernel
theorem dX7_put_10 : decode cX7_put 10 = .ok (.aload_n 0, 1) := by decide +kernel
theorem dX7_put_11 : decode cX7_put 11 = .ok (.getfield 15, 3) := by decide +kernel
theorem dX7_put_14 : decode cX7_put 14 = .ok (.aload_n 0, 1) := by decide +kernel
theorem dX7_put_15 : decode cX7_put 15 = .ok (.getfield 26, 3) := by decide +kernel
theorem dX7_put_18 : decode cX7_put 18 = .ok (.iload_n 1, 1) := by decide +kernel
theorem dX7_put_19 : decode cX7_put 19 = .ok (.iastore, 1) := by decide +kernel
theorem dX7_put_20 : decode cX7_put 20 = .ok (.aload_n 0, 1) := by decide +kernel
theorem dX7_put_21 : decode cX7_put 21 = .ok (.dup, 1) := by decide +kernel
theorem dX7_put_22 : decode cX7_put 22 = .ok (.getfield 26, 3) := by decide +kernel
theorem dX7_put_25 : decode cX7_put 25 = .ok (.iconst 1, 1) := by decide +kernel
theorem dX7_put_26 : decode cX7_put 26 = .ok (.iadd, 1) := by decide +kernel
theorem dX7_put_27 : decode cX7_put 27 = .ok (.putfield 26, 3) := by decide +kernel
theorem dX7_put_30 : decode cX7_put 30 = .ok (.return_, 1) := by decide +kernel
theorem dX7_joins_0 : decode cX7_joins 0 = .ok (.iload_n 1, 1) := by decide +kernel
theorem dX7_joins_1 : decode cX7_joins 1 = .ok (.lookupswitch 137 #[(38, 93), (42, 126), (43, 115), (45, 115), (47, 126), (60, 104), (61, 104), (62, 104), (124, 83)], 83) := by decide +kernel
theorem dX7_joins_84 : decode cX7_joins 84 = .ok (.iload_n 0, 1) := by decide +kernel
theorem dX7_joins_85 : decode cX7_joins 85 = .ok (.ifCond .ne 7, 3) := by decide +kernel
theorem dX7_joins_88 : decode cX7_joins 88 = .ok (.iconst 1, 1) := by decide +kernel
theorem dX7_joins_89 : decode cX7_joins 89 = .ok (.goto 4, 3) := by decide +kernel
theorem dX7_joins_92 : decode cX7_joins 92 = .ok (.iconst 0, 1) := by decide +kernel
theorem dX7_joins_93 : decode cX7_joins 93 = .ok (.ireturn, 1) := by decide +kernel
theorem dX7_joins_94 : decode cX7_joins 94 = .ok (.iload_n 0, 1) := by decide +kernel
theorem dX7_joins_95 : decode cX7_joins 95 = .ok (.iconst 1, 1) := by decide +kernel
theorem dX7_joins_96 : decode cX7_joins 96 = .ok (.if_icmp .ne 7, 3) := by decide +kernel
theorem dX7_joins_99 : decode cX7_joins 99 = .ok (.iconst 1, 1) := by decide +kernel
theorem dX7_joins_100 : decode cX7_joins 100 = .ok (.goto 4, 3) := by decide +kernel
theorem dX7_joins_103 : decode cX7_joins 103 = .ok (.iconst 0, 1) := by decide +kernel
theorem dX7_joins_104 : decode cX7_joins 104 = .ok (.ireturn, 1) := by decide +kernel
theorem dX7_joins_105 : decode cX7_joins 105 = .ok (.iload_n 0, 1) := by decide +kernel
theorem dX7_joins_106 : decode cX7_joins 106 = .ok (.iconst 2, 1) := by decide +kernel
theorem dX7_joins_107 : decode cX7_joins 107 = .ok (.if_icmp .ne 7, 3) := by decide +kernel
theorem dX7_joins_110 : decode cX7_joins 110 = .ok (.iconst 1, 1) := by decide +kernel
theorem dX7_joins_111 : decode cX7_joins 111 = .ok (.goto 4, 3) := by decide +kernel
theorem dX7_joins_114 : decode cX7_joins 114 = .ok (.iconst 0, 1) := by decide +kernel
theorem dX7_joins_115 : decode cX7_joins 115 = .ok (.ireturn, 1) := by decide +kernel
theorem dX7_joins_116 : decode cX7_joins 116 = .ok (.iload_n 0, 1) := by decide +kernel
theorem dX7_joins_117 : decode cX7_joins 117 = .ok (.iconst 3, 1) := by decide +kernel
theorem dX7_joins_118 : decode cX7_joins 118 = .ok (.if_icmp .ne 7, 3) := by decide +kernel
theorem dX7_joins_121 : decode cX7_joins 121 = .ok (.iconst 1, 1) := by decide +kernel
theorem dX7_joins_122 : decode cX7_joins 122 = .ok (.goto 4, 3) := by decide +kernel
theorem dX7_joins_125 : decode cX7_joins 125 = .ok (.iconst 0, 1) := by decide +kernel
theorem dX7_joins_126 : decode cX7_joins 126 = .ok (.ireturn, 1) := by decide +kernel
theorem dX7_joins_127 : decode cX7_joins 127 = .ok (.iload_n 0, 1) := by decide +kernel
theorem dX7_joins_128 : decode cX7_joins 128 = .ok (.iconst 4, 1) := by decide +kernel
theorem dX7_joins_129 : decode cX7_joins 129 = .ok (.if_icmp .ne 7, 3) := by decide +kernel
theorem dX7_joins_132 : decode cX7_joins 132 = .ok (.iconst 1, 1) := by decide +kernel
theorem dX7_joins_133 : decode cX7_joins 133 = .ok (.goto 4, 3) := by decide +kernel
theorem dX7_joins_136 : decode cX7_joins 136 = .ok (.iconst 0, 1) := by decide +kernel
theorem dX7_joins_137 : decode cX7_joins 137 = .ok (.ireturn, 1) := by decide +kernel
theorem dX7_joins_138 : decode cX7_joins 138 = .ok (.iconst 0, 1) := by decide +kernel
theorem dX7_joins_139 : decode cX7_joins 139 = .ok (.ireturn, 1) := by decide +kernel
theorem dX7_forward_0 : decode cX7_forward 0 = .ok (.aload_n 0, 1) := by decide +kernel
theorem dX7_forward_1 : decode cX7_forward 1 = .ok (.getfield 35, 3) := by decide +kernel
theorem dX7_forward_4 : decode cX7_forward 4 = .ok (.iconst 1, 1) := by decide +kernel
theorem dX7_forward_5 : decode cX7_forward 5 = .ok (.if_icmp .eq 11, 3) := by decide +kernel
theorem dX7_forward_8 : decode cX7_forward 8 = .ok (.aload_n 0, 1) := by decide +kernel
theorem dX7_forward_9 : decode cX7_forward 9 = .ok (.getfield 35, 3) := by decide +kernel
theorem dX7_forward_12 : decode cX7_forward 12 = .ok (.iconst 2, 1) := by decide +kernel
theorem dX7_forward_13 : decode cX7_forward 13 = .ok (.if_icmp .ne 7, 3) := by decide +kernel
theorem dX7_forward_16 : decode cX7_forward 16 = .ok (.iconst 1, 1) := by decide +kernel
theorem dX7_forward_17 : decode cX7_forward 17 = .ok (.goto 4, 3) := by decide +kernel
theorem dX7_forward_20 : decode cX7_forward 20 = .ok (.iconst 0, 1) := by decide +kernel
theorem dX7_forward_21 : decode cX7_forward 21 = .ok (.istore_n 1, 1) := by decide +kernel
theorem dX7_forward_22 : decode cX7_forward 22 = .ok (.aload_n 0, 1) := by decide +kernel
theorem dX7_forward_23 : decode cX7_forward 23 = .ok (.aload_n 0, 1) := by decide +kernel
theorem dX7_forward_24 : decode cX7_forward 24 = .ok (.getfield 32, 3) := by decide +kernel
theorem dX7_forward_27 : decode cX7_forward 27 = .ok (.putfield 48, 3) := by decide +kernel
theorem dX7_forward_30 : decode cX7_forward 30 = .ok (.aload_n 0, 1) := by decide +kernel
theorem dX7_forward_31 : decode cX7_forward 31 = .ok (.getfield 48, 3) := by decide +kernel
theorem dX7_forward_34 : decode cX7_forward 34 = .ok (.aload_n 0, 1) := by decide +kernel
theorem dX7_forward_35 : decode cX7_forward 35 = .ok (.getfield 19, 3) := by decide +kernel
theorem dX7_forward_38 : decode cX7_forward 38 = .ok (.if_icmp .ge 30, 3) := by decide +kernel
theorem dX7_forward_41 : decode cX7_forward 41 = .ok (.aload_n 0, 1) := by decide +kernel
theorem dX7_forward_42 : decode cX7_forward 42 = .ok (.getfield 9, 3) := by decide +kernel
theorem dX7_forward_45 : decode cX7_forward 45 = .ok (.aload_n 0, 1) := by decide +kernel
theorem dX7_forward_46 : decode cX7_forward 46 = .ok (.getfield 48, 3) := by decide +kernel
theorem dX7_forward_49 : decode cX7_forward 49 = .ok (.baload, 1) := by decide +kernel
theorem dX7_forward_50 : decode cX7_forward 50 = .ok (.bipush 32, 2) := by decide +kernel
theorem dX7_forward_52 : decode cX7_forward 52 = .ok (.if_icmp .ne 16, 3) := by decide +kernel
theorem dX7_forward_55 : decode cX7_forward 55 = .ok (.aload_n 0, 1) := by decide +kernel
theorem dX7_forward_56 : decode cX7_forward 56 = .ok (.dup, 1) := by decide +kernel
theorem dX7_forward_57 : decode cX7_forward 57 = .ok (.getfield 48, 3) := by decide +kernel
theorem dX7_forward_60 : decode cX7_forward 60 = .ok (.iconst 1, 1) := by decide +kernel
theorem dX7_forward_61 : decode cX7_forward 61 = .ok (.iadd, 1) := by decide +kernel
theorem dX7_forward_62 : decode cX7_forward 62 = .ok (.putfield 48, 3) := by decide +kernel
theorem dX7_forward_65 : decode cX7_forward 65 = .ok (.goto (-35), 3) := by decide +kernel
theorem dX7_forward_68 : decode cX7_forward 68 = .ok (.aload_n 0, 1) := by decide +kernel
theorem dX7_forward_69 : decode cX7_forward 69 = .ok (.getfield 48, 3) := by decide +kernel
theorem dX7_forward_72 : decode cX7_forward 72 = .ok (.aload_n 0, 1) := by decide +kernel
theorem dX7_forward_73 : decode cX7_forward 73 = .ok (.getfield 32, 3) := by decide +kernel
theorem dX7_forward_76 : decode cX7_forward 76 = .ok (.if_icmp .le 7, 3) := by decide +kernel
theorem dX7_forward_79 : decode cX7_forward 79 = .ok (.iconst 1, 1) := by decide +kernel
theorem dX7_forward_80 : decode cX7_forward 80 = .ok (.goto 4, 3) := by decide +kernel
theorem dX7_forward_83 : decode cX7_forward 83 = .ok (.iconst 0, 1) := by decide +kernel
theorem dX7_forward_84 : decode cX7_forward 84 = .ok (.istore_n 2, 1) := by decide +kernel
theorem dX7_forward_85 : decode cX7_forward 85 = .ok (.aload_n 0, 1) := by decide +kernel
theorem dX7_forward_86 : decode cX7_forward 86 = .ok (.aload_n 0, 1) := by decide +kernel
theorem dX7_forward_87 : decode cX7_forward 87 = .ok (.getfield 48, 3) := by decide +kernel
theorem dX7_forward_90 : decode cX7_forward 90 = .ok (.putfield 32, 3) := by decide +kernel
theorem dX7_forward_93 : decode cX7_forward 93 = .ok (.aload_n 0, 1) := by decide +kernel
theorem dX7_forward_94 : decode cX7_forward 94 = .ok (.aload_n 0, 1) := by decide +kernel
theorem dX7_forward_95 : decode cX7_forward 95 = .ok (.aload_n 0, 1) := by decide +kernel
theorem dX7_forward_96 : decode cX7_forward 96 = .ok (.getfield 48, 3) := by decide +kernel
theorem dX7_forward_99 : decode cX7_forward 99 = .ok (.invokevirtual 93, 3) := by decide +kernel
theorem dX7_forward_102 : decode cX7_forward 102 = .ok (.putfield 35, 3) := by decide +kernel
theorem dX7_forward_105 : decode cX7_forward 105 = .ok (.aload_n 0, 1) := by decide +kernel
theorem dX7_forward_106 : decode cX7_forward 106 = .ok (.getfield 35, 3) := by decide +kernel
theorem dX7_forward_109 : decode cX7_forward 109 = .ok (.ifCond .ne 4, 3) := by decide +kernel
theorem dX7_forward_112 : decode cX7_forward 112 = .ok (.return_, 1) := by decide +kernel
theorem dX7_forward_113 : decode cX7_forward 113 = .ok (.aload_n 0, 1) := by decide +kernel
theorem dX7_forward_114 : decode cX7_forward 114 = .ok (.dup, 1) := by decide +kernel
theorem dX7_forward_115 : decode cX7_forward 115 = .ok (.getfield 32, 3) := by decide +kernel
theorem dX7_forward_118 : decode cX7_forward 118 = .ok (.iconst 1, 1) := by decide +kernel
theorem dX7_forward_119 : decode cX7_forward 119 = .ok (.iadd, 1) := by decide +kernel
theorem dX7_forward_120 : decode cX7_forward 120 = .ok (.putfield 32, 3) := by decide +kernel
theorem dX7_forward_123 : decode cX7_forward 123 = .ok (.aload_n 0, 1) := by decide +kernel
theorem dX7_forward_124 : decode cX7_forward 124 = .ok (.getfield 35, 3) := by decide +kernel
theorem dX7_forward_127 : decode cX7_forward 127 = .ok (.iconst 3, 1) := by decide +kernel
theorem dX7_forward_128 : decode cX7_forward 128 = .ok (.if_icmp .ne 4, 3) := by decide +kernel
theorem dX7_forward_131 : decode cX7_forward 131 = .ok (.return_, 1) := by decide +kernel
theorem dX7_forward_132 : decode cX7_forward 132 = .ok (.aload_n 0, 1) := by decide +kernel
theorem dX7_forward_133 : decode cX7_forward 133 = .ok (.getfield 32, 3) := by decide +kernel
theorem dX7_forward_136 : decode cX7_forward 136 = .ok (.aload_n 0, 1) := by decide +kernel
theorem dX7_forward_137 : decode cX7_forward 137 = .ok (.getfield 19, 3) := by decide +kernel
theorem dX7_forward_140 : decode cX7_forward 140 = .ok (.if_icmp .ge 31, 3) := by decide +kernel
theorem dX7_forward_143 : decode cX7_forward 143 = .ok (.aload_n 0, 1) := by decide +kernel
theorem dX7_forward_144 : decode cX7_forward 144 = .ok (.aload_n 0, 1) := by decide +kernel
theorem dX7_forward_145 : decode cX7_forward 145 = .ok (.getfield 32, 3) := by decide +kernel
theorem dX7_forward_148 : decode cX7_forward 148 = .ok (.invokevirtual 93, 3) := by decide +kernel
theorem dX7_forward_151 : decode cX7_forward 151 = .ok (.aload_n 0, 1) := by decide +kernel
theorem dX7_forward_152 : decode cX7_forward 152 = .ok (.getfield 35, 3) := by decide +kernel
theorem dX7_forward_155 : decode cX7_forward 155 = .ok (.if_icmp .ne 16, 3) := by decide +kernel
theorem dX7_forward_158 : decode cX7_forward 158 = .ok (.aload_n 0, 1) := by decide +kernel
theorem dX7_forward_159 : decode cX7_forward 159 = .ok (.dup, 1) := by decide +kernel
theorem dX7_forward_160 : decode cX7_forward 160 = .ok (.getfield 32, 3) := by decide +kernel
theorem dX7_forward_163 : decode cX7_forward 163 = .ok (.iconst 1, 1) := by decide +kernel
theorem dX7_forward_164 : decode cX7_forward 164 = .ok (.iadd, 1) := by decide +kernel
theorem dX7_forward_165 : decode cX7_forward 165 = .ok (.putfield 32, 3) := by decide +kernel
theorem dX7_forward_168 : decode cX7_forward 168 = .ok (.goto (-36), 3) := by decide +kernel
theorem dX7_forward_171 : decode cX7_forward 171 = .ok (.iload_n 1, 1) := by decide +kernel
theorem dX7_forward_172 : decode cX7_forward 172 = .ok (.ifCond .eq 12, 3) := by decide +kernel
theorem dX7_forward_175 : decode cX7_forward 175 = .ok (.iload_n 2, 1) := by decide +kernel
theorem dX7_forward_176 : decode cX7_forward 176 = .ok (.ifCond .ne 8, 3) := by decide +kernel
theorem dX7_forward_179 : decode cX7_forward 179 = .ok (.aload_n 0, 1) := by decide +kernel
theorem dX7_forward_180 : decode cX7_forward 180 = .ok (.iconst 4, 1) := by decide +kernel
theorem dX7_forward_181 : decode cX7_forward 181 = .ok (.putfield 35, 3) := by decide +kernel
theorem dX7_forward_184 : decode cX7_forward 184 = .ok (.return_, 1) := by decide +kernel
theorem dX7_sortAt_0 : decode cX7_sortAt 0 = .ok (.iload_n 1, 1) := by decide +kernel
theorem dX7_sortAt_1 : decode cX7_sortAt 1 = .ok (.ifCond .lt 11, 3) := by decide +kernel
theorem dX7_sortAt_4 : decode cX7_sortAt 4 = .ok (.iload_n 1, 1) := by decide +kernel
theorem dX7_sortAt_5 : decode cX7_sortAt 5 = .ok (.aload_n 0, 1) := by decide +kernel
theorem dX7_sortAt_6 : decode cX7_sortAt 6 = .ok (.getfield 19, 3) := by decide +kernel
theorem dX7_sortAt_9 : decode cX7_sortAt 9 = .ok (.if_icmp .lt 5, 3) := by decide +kernel
theorem dX7_sortAt_12 : decode cX7_sortAt 12 = .ok (.iconst 0, 1) := by decide +kernel
theorem dX7_sortAt_13 : decode cX7_sortAt 13 = .ok (.ireturn, 1) := by decide +kernel
theorem dX7_sortAt_14 : decode cX7_sortAt 14 = .ok (.aload_n 0, 1) := by decide +kernel
theorem dX7_sortAt_15 : decode cX7_sortAt 15 = .ok (.getfield 9, 3) := by decide +kernel
theorem dX7_sortAt_18 : decode cX7_sortAt 18 = .ok (.iload_n 1, 1) := by decide +kernel
theorem dX7_sortAt_19 : decode cX7_sortAt 19 = .ok (.baload, 1) := by decide +kernel
theorem dX7_sortAt_20 : decode cX7_sortAt 20 = .ok (.istore_n 2, 1) := by decide +kernel
theorem dX7_sortAt_21 : decode cX7_sortAt 21 = .ok (.iload_n 2, 1) := by decide +kernel
theorem dX7_sortAt_22 : decode cX7_sortAt 22 = .ok (.bipush 97, 2) := by decide +kernel
theorem dX7_sortAt_24 : decode cX7_sortAt 24 = .ok (.if_icmp .lt 11, 3) := by decide +kernel
theorem dX7_sortAt_27 : decode cX7_sortAt 27 = .ok (.iload_n 2, 1) := by decide +kernel
theorem dX7_sortAt_28 : decode cX7_sortAt 28 = .ok (.bipush 122, 2) := by decide +kernel
theorem dX7_sortAt_30 : decode cX7_sortAt 30 = .ok (.if_icmp .gt 5, 3) := by decide +kernel
theorem dX7_sortAt_33 : decode cX7_sortAt 33 = .ok (.iconst 1, 1) := by decide +kernel
theorem dX7_sortAt_34 : decode cX7_sortAt 34 = .ok (.ireturn, 1) := by decide +kernel
theorem dX7_sortAt_35 : decode cX7_sortAt 35 = .ok (.iload_n 2, 1) := by decide +kernel
theorem dX7_sortAt_36 : decode cX7_sortAt 36 = .ok (.bipush 48, 2) := by decide +kernel
theorem dX7_sortAt_38 : decode cX7_sortAt 38 = .ok (.if_icmp .lt 13, 3) := by decide +kernel
theorem dX7_sortAt_41 : decode cX7_sortAt 41 = .ok (.iload_n 2, 1) := by decide +kernel
theorem dX7_sortAt_42 : decode cX7_sortAt 42 = .ok (.bipush 57, 2) := by decide +kernel
theorem dX7_sortAt_44 : decode cX7_sortAt 44 = .ok (.if_icmp .gt 7, 3) := by decide +kernel
theorem dX7_sortAt_47 : decode cX7_sortAt 47 = .ok (.iconst 2, 1) := by decide +kernel
theorem dX7_sortAt_48 : decode cX7_sortAt 48 = .ok (.goto 4, 3) := by decide +kernel
theorem dX7_sortAt_51 : decode cX7_sortAt 51 = .ok (.iconst 3, 1) := by decide +kernel
theorem dX7_sortAt_52 : decode cX7_sortAt 52 = .ok (.ireturn, 1) := by decide +kernel
theorem dX7_signHere_0 : decode cX7_signHere 0 = .ok (.aload_n 0, 1) := by decide +kernel
theorem dX7_signHere_1 : decode cX7_signHere 1 = .ok (.getfield 35, 3) := by decide +kernel
theorem dX7_signHere_4 : decode cX7_signHere 4 = .ok (.iconst 3, 1) := by decide +kernel
theorem dX7_signHere_5 : decode cX7_signHere 5 = .ok (.if_icmp .ne 26, 3) := by decide +kernel
theorem dX7_signHere_8 : decode cX7_signHere 8 = .ok (.aload_n 0, 1) := by decide +kernel
theorem dX7_signHere_9 : decode cX7_signHere 9 = .ok (.getfield 48, 3) := by decide +kernel
theorem dX7_signHere_12 : decode cX7_signHere 12 = .ok (.aload_n 0, 1) := by decide +kernel
theorem dX7_signHere_13 : decode cX7_signHere 13 = .ok (.getfield 19, 3) := by decide +kernel
theorem dX7_signHere_16 : decode cX7_signHere 16 = .ok (.if_icmp .ge 15, 3) := by decide +kernel
theorem dX7_signHere_19 : decode cX7_signHere 19 = .ok (.aload_n 0, 1) := by decide +kernel
theorem dX7_signHere_20 : decode cX7_signHere 20 = .ok (.getfield 9, 3) := by decide +kernel
theorem dX7_signHere_23 : decode cX7_signHere 23 = .ok (.aload_n 0, 1) := by decide +kernel
theorem dX7_signHere_24 : decode cX7_signHere 24 = .ok (.getfield 48, 3) := by decide +kernel
theorem dX7_signHere_27 : decode cX7_signHere 27 = .ok (.baload, 1) := by decide +kernel
theorem dX7_signHere_28 : decode cX7_signHere 28 = .ok (.goto 4, 3) := by decide +kernel
theorem dX7_signHere_31 : decode cX7_signHere 31 = .ok (.iconst 0, 1) := by decide +kernel
theorem dX7_signHere_32 : decode cX7_signHere 32 = .ok (.ireturn, 1) := by decide +kernel
theorem dX7_isNumberHere_0 : decode cX7_isNumberHere 0 = .ok (.aload_n 0, 1) := by decide +kernel
theorem dX7_isNumberHere_1 : decode cX7_isNumberHere 1 = .ok (.getfield 35, 3) := by decide +kernel
theorem dX7_isNumberHere_4 : decode cX7_isNumberHere 4 = .ok (.iconst 2, 1) := by decide +kernel
theorem dX7_isNumberHere_5 : decode cX7_isNumberHere 5 = .ok (.if_icmp .ne 20, 3) := by decide +kernel
theorem dX7_isNumberHere_8 : decode cX7_isNumberHere 8 = .ok (.aload_n 0, 1) := by decide +kernel
theorem dX7_isNumberHere_9 : decode cX7_isNumberHere 9 = .ok (.getfield 32, 3) := by decide +kernel
theorem dX7_isNumberHere_12 : decode cX7_isNumberHere 12 = .ok (.aload_n 0, 1) := by decide +kernel
theorem dX7_isNumberHere_13 : decode cX7_isNumberHere 13 = .ok (.getfield 48, 3) := by decide +kernel
theorem dX7_isNumberHere_16 : decode cX7_isNumberHere 16 = .ok (.isub, 1) := by decide +kernel
theorem dX7_isNumberHere_17 : decode cX7_isNumberHere 17 = .ok (.iconst 4, 1) := by decide +kernel
theorem dX7_isNumberHere_18 : decode cX7_isNumberHere 18 = .ok (.if_icmp .gt 7, 3) := by decide +kernel
theorem dX7_isNumberHere_21 : decode cX7_isNumberHere 21 = .ok (.iconst 1, 1) := by decide +kernel
theorem dX7_isNumberHere_22 : decode cX7_isNumberHere 22 = .ok (.goto 4, 3) := by decide +kernel
theorem dX7_isNumberHere_25 : decode cX7_isNumberHere 25 = .ok (.iconst 0, 1) := by decide +kernel
theorem dX7_isNumberHere_26 : decode cX7_isNumberHere 26 = .ok (.ireturn, 1) := by decide +kernel
theorem dX7_numberHere_0 : decode cX7_numberHere 0 = .ok (.iconst 0, 1) := by decide +kernel
theorem dX7_numberHere_1 : decode cX7_numberHere 1 = .ok (.istore_n 1, 1) := by decide +kernel
theorem dX7_numberHere_2 : decode cX7_numberHere 2 = .ok (.aload_n 0, 1) := by decide +kernel
theorem dX7_numberHere_3 : decode cX7_numberHere 3 = .ok (.getfield 48, 3) := by decide +kernel
theorem dX7_numberHere_6 : decode cX7_numberHere 6 = .ok (.istore_n 2, 1) := by decide +kernel
theorem dX7_numberHere_7 : decode cX7_numberHere 7 = .ok (.iload_n 2, 1) := by decide +kernel
theorem dX7_numberHere_8 : decode cX7_numberHere 8 = .ok (.aload_n 0, 1) := by decide +kernel
theorem dX7_numberHere_9 : decode cX7_numberHere 9 = .ok (.getfield 32, 3) := by decide +kernel
theorem dX7_numberHere_12 : decode cX7_numberHere 12 = .ok (.if_icmp .ge 32, 3) := by decide +kernel
theorem dX7_numberHere_15 : decode cX7_numberHere 15 = .ok (.iload_n 2, 1) := by decide +kernel
theorem dX7_numberHere_16 : decode cX7_numberHere 16 = .ok (.aload_n 0, 1) := by decide +kernel
theorem dX7_numberHere_17 : decode cX7_numberHere 17 = .ok (.getfield 19, 3) := by decide +kernel
theorem dX7_numberHere_20 : decode cX7_numberHere 20 = .ok (.if_icmp .ge 24, 3) := by decide +kernel
theorem dX7_numberHere_23 : decode cX7_numberHere 23 = .ok (.iload_n 1, 1) := by decide +kernel
theorem dX7_numberHere_24 : decode cX7_numberHere 24 = .ok (.bipush 10, 2) := by decide +kernel
theorem dX7_numberHere_26 : decode cX7_numberHere 26 = .ok (.imul, 1) := by decide +kernel
theorem dX7_numberHere_27 : decode cX7_numberHere 27 = .ok (.aload_n 0, 1) := by decide +kernel
theorem dX7_numberHere_28 : decode cX7_numberHere 28 = .ok (.getfield 9, 3) := by decide +kernel
theorem dX7_numberHere_31 : decode cX7_numberHere 31 = .ok (.iload_n 2, 1) := by decide +kernel
theorem dX7_numberHere_32 : decode cX7_numberHere 32 = .ok (.baload, 1) := by decide +kernel
theorem dX7_numberHere_33 : decode cX7_numberHere 33 = .ok (.iadd, 1) := by decide +kernel
theorem dX7_numberHere_34 : decode cX7_numberHere 34 = .ok (.bipush 48, 2) := by decide +kernel
theorem dX7_numberHere_36 : decode cX7_numberHere 36 = .ok (.isub, 1) := by decide +kernel
theorem dX7_numberHere_37 : decode cX7_numberHere 37 = .ok (.istore_n 1, 1) := by decide +kernel
theorem dX7_numberHere_38 : decode cX7_numberHere 38 = .ok (.iinc 2 1, 3) := by decide +kernel
theorem dX7_numberHere_41 : decode cX7_numberHere 41 = .ok (.goto (-34), 3) := by decide +kernel
theorem dX7_numberHere_44 : decode cX7_numberHere 44 = .ok (.iload_n 1, 1) := by decide +kernel
theorem dX7_numberHere_45 : decode cX7_numberHere 45 = .ok (.ireturn, 1) := by decide +kernel
theorem dX7_nameHere_0 : decode cX7_nameHere 0 = .ok (.aload_n 0, 1) := by decide +kernel
theorem dX7_nameHere_1 : decode cX7_nameHere 1 = .ok (.getfield 35, 3) := by decide +kernel
theorem dX7_nameHere_4 : decode cX7_nameHere 4 = .ok (.iconst 1, 1) := by decide +kernel
theorem dX7_nameHere_5 : decode cX7_nameHere 5 = .ok (.if_icmp .ne 16, 3) := by decide +kernel
theorem dX7_nameHere_8 : decode cX7_nameHere 8 = .ok (.aload_n 0, 1) := by decide +kernel
theorem dX7_nameHere_9 : decode cX7_nameHere 9 = .ok (.getfield 32, 3) := by decide +kernel
theorem dX7_nameHere_12 : decode cX7_nameHere 12 = .ok (.aload_n 0, 1) := by decide +kernel
theorem dX7_nameHere_13 : decode cX7_nameHere 13 = .ok (.getfield 48, 3) := by decide +kernel
theorem dX7_nameHere_16 : decode cX7_nameHere 16 = .ok (.isub, 1) := by decide +kernel
theorem dX7_nameHere_17 : decode cX7_nameHere 17 = .ok (.iconst 1, 1) := by decide +kernel
theorem dX7_nameHere_18 : decode cX7_nameHere 18 = .ok (.if_icmp .eq 5, 3) := by decide +kernel
theorem dX7_nameHere_21 : decode cX7_nameHere 21 = .ok (.iconst (-1), 1) := by decide +kernel
theorem dX7_nameHere_22 : decode cX7_nameHere 22 = .ok (.ireturn, 1) := by decide +kernel
theorem dX7_nameHere_23 : decode cX7_nameHere 23 = .ok (.aload_n 0, 1) := by decide +kernel
theorem dX7_nameHere_24 : decode cX7_nameHere 24 = .ok (.getfield 55, 3) := by decide +kernel
theorem dX7_nameHere_27 : decode cX7_nameHere 27 = .ok (.ifCond .ne 8, 3) := by decide +kernel
theorem dX7_nameHere_30 : decode cX7_nameHere 30 = .ok (.ldc 97, 2) := by decide +kernel
theorem dX7_nameHere_32 : decode cX7_nameHere 32 = .ok (.goto 18, 3) := by decide +kernel
theorem dX7_nameHere_35 : decode cX7_nameHere 35 = .ok (.aload_n 0, 1) := by decide +kernel
theorem dX7_nameHere_36 : decode cX7_nameHere 36 = .ok (.getfield 55, 3) := by decide +kernel
theorem dX7_nameHere_39 : decode cX7_nameHere 39 = .ok (.iconst 1, 1) := by decide +kernel
theorem dX7_nameHere_40 : decode cX7_nameHere 40 = .ok (.if_icmp .ne 8, 3) := by decide +kernel
theorem dX7_nameHere_43 : decode cX7_nameHere 43 = .ok (.ldc 99, 2) := by decide +kernel
theorem dX7_nameHere_45 : decode cX7_nameHere 45 = .ok (.goto 5, 3) := by decide +kernel
theorem dX7_nameHere_48 : decode cX7_nameHere 48 = .ok (.ldc 101, 2) := by decide +kernel
theorem dX7_nameHere_50 : decode cX7_nameHere 50 = .ok (.astore_n 1, 1) := by decide +kernel
theorem dX7_nameHere_51 : decode cX7_nameHere 51 = .ok (.aload_n 1, 1) := by decide +kernel
theorem dX7_nameHere_52 : decode cX7_nameHere 52 = .ok (.aload_n 0, 1) := by decide +kernel
theorem dX7_nameHere_53 : decode cX7_nameHere 53 = .ok (.getfield 9, 3) := by decide +kernel
theorem dX7_nameHere_56 : decode cX7_nameHere 56 = .ok (.aload_n 0, 1) := by decide +kernel
theorem dX7_nameHere_57 : decode cX7_nameHere 57 = .ok (.getfield 48, 3) := by decide +kernel
theorem dX7_nameHere_60 : decode cX7_nameHere 60 = .ok (.baload, 1) := by decide +kernel
theorem dX7_nameHere_61 : decode cX7_nameHere 61 = .ok (.i2c, 1) := by decide +kernel
theorem dX7_nameHere_62 : decode cX7_nameHere 62 = .ok (.invokevirtual 103, 3) := by decide +kernel
theorem dX7_nameHere_65 : decode cX7_nameHere 65 = .ok (.ireturn, 1) := by decide +kernel
theorem dX7_keyHere_0 : decode cX7_keyHere 0 = .ok (.aload_n 0, 1) := by decide +kernel
theorem dX7_keyHere_1 : decode cX7_keyHere 1 = .ok (.ldc 108, 2) := by decide +kernel
theorem dX7_keyHere_3 : decode cX7_keyHere 3 = .ok (.invokevirtual 110, 3) := by decide +kernel
theorem dX7_keyHere_6 : decode cX7_keyHere 6 = .ok (.ifCond .eq 5, 3) := by decide +kernel
theorem dX7_keyHere_9 : decode cX7_keyHere 9 = .ok (.iconst 0, 1) := by decide +kernel
theorem dX7_keyHere_10 : decode cX7_keyHere 10 = .ok (.ireturn, 1) := by decide +kernel
theorem dX7_keyHere_11 : decode cX7_keyHere 11 = .ok (.aload_n 0, 1) := by decide +kernel
theorem dX7_keyHere_12 : decode cX7_keyHere 12 = .ok (.ldc 114, 2) := by decide +kernel
theorem dX7_keyHere_14 : decode cX7_keyHere 14 = .ok (.invokevirtual 110, 3) := by decide +kernel
theorem dX7_keyHere_17 : decode cX7_keyHere 17 = .ok (.ifCond .eq 5, 3) := by decide +kernel
theorem dX7_keyHere_20 : decode cX7_keyHere 20 = .ok (.iconst 1, 1) := by decide +kernel
theorem dX7_keyHere_21 : decode cX7_keyHere 21 = .ok (.ireturn, 1) := by decide +kernel
theorem dX7_keyHere_22 : decode cX7_keyHere 22 = .ok (.aload_n 0, 1) := by decide +kernel
theorem dX7_keyHere_23 : decode cX7_keyHere 23 = .ok (.ldc 116, 2) := by decide +kernel
theorem dX7_keyHere_25 : decode cX7_keyHere 25 = .ok (.invokevirtual 110, 3) := by decide +kernel
theorem dX7_keyHere_28 : decode cX7_keyHere 28 = .ok (.ifCond .eq 7, 3) := by decide +kernel
theorem dX7_keyHere_31 : decode cX7_keyHere 31 = .ok (.iconst 2, 1) := by decide +kernel
theorem dX7_keyHere_32 : decode cX7_keyHere 32 = .ok (.goto 4, 3) := by decide +kernel
theorem dX7_keyHere_35 : decode cX7_keyHere 35 = .ok (.iconst (-1), 1) := by decide +kernel
theorem dX7_keyHere_36 : decode cX7_keyHere 36 = .ok (.ireturn, 1) := by decide +kernel
theorem dX7_isWordHere_0 : decode cX7_isWordHere 0 = .ok (.aload_n 0, 1) := by decide +kernel
theorem dX7_isWordHere_1 : decode cX7_isWordHere 1 = .ok (.getfield 35, 3) := by decide +kernel
theorem dX7_isWordHere_4 : decode cX7_isWordHere 4 = .ok (.iconst 1, 1) := by decide +kernel
theorem dX7_isWordHere_5 : decode cX7_isWordHere 5 = .ok (.if_icmp .ne 19, 3) := by decide +kernel
theorem dX7_isWordHere_8 : decode cX7_isWordHere 8 = .ok (.aload_n 0, 1) := by decide +kernel
theorem dX7_isWordHere_9 : decode cX7_isWordHere 9 = .ok (.getfield 32, 3) := by decide +kernel
theorem dX7_isWordHere_12 : decode cX7_isWordHere 12 = .ok (.aload_n 0, 1) := by decide +kernel
theorem dX7_isWordHere_13 : decode cX7_isWordHere 13 = .ok (.getfield 48, 3) := by decide +kernel
theorem dX7_isWordHere_16 : decode cX7_isWordHere 16 = .ok (.isub, 1) := by decide +kernel
theorem dX7_isWordHere_17 : decode cX7_isWordHere 17 = .ok (.aload_n 1, 1) := by decide +kernel
theorem dX7_isWordHere_18 : decode cX7_isWordHere 18 = .ok (.invokevirtual 118, 3) := by decide +kernel
theorem dX7_isWordHere_21 : decode cX7_isWordHere 21 = .ok (.if_icmp .eq 5, 3) := by decide +kernel
theorem dX7_isWordHere_24 : decode cX7_isWordHere 24 = .ok (.iconst 0, 1) := by decide +kernel
theorem dX7_isWordHere_25 : decode cX7_isWordHere 25 = .ok (.ireturn, 1) := by decide +kernel
theorem dX7_isWordHere_26 : decode cX7_isWordHere 26 = .ok (.iconst 0, 1) := by decide +kernel
theorem dX7_isWordHere_27 : decode cX7_isWordHere 27 = .ok (.istore_n 2, 1) := by decide +kernel
theorem dX7_isWordHere_28 : decode cX7_isWordHere 28 = .ok (.iload_n 2, 1) := by decide +kernel
theorem dX7_isWordHere_29 : decode cX7_isWordHere 29 = .ok (.aload_n 1, 1) := by decide +kernel
theorem dX7_isWordHere_30 : decode cX7_isWordHere 30 = .ok (.invokevirtual 118, 3) := by decide +kernel
theorem dX7_isWordHere_33 : decode cX7_isWordHere 33 = .ok (.if_icmp .ge 30, 3) := by decide +kernel
theorem dX7_isWordHere_36 : decode cX7_isWordHere 36 = .ok (.aload_n 0, 1) := by decide +kernel
theorem dX7_isWordHere_37 : decode cX7_isWordHere 37 = .ok (.getfield 9, 3) := by decide +kernel
theorem dX7_isWordHere_40 : decode cX7_isWordHere 40 = .ok (.aload_n 0, 1) := by decide +kernel
theorem dX7_isWordHere_41 : decode cX7_isWordHere 41 = .ok (.getfield 48, 3) := by decide +kernel
theorem dX7_isWordHere_44 : decode cX7_isWordHere 44 = .ok (.iload_n 2, 1) := by decide +kernel
theorem dX7_isWordHere_45 : decode cX7_isWordHere 45 = .ok (.iadd, 1) := by decide +kernel
theorem dX7_isWordHere_46 : decode cX7_isWordHere 46 = .ok (.baload, 1) := by decide +kernel
theorem dX7_isWordHere_47 : decode cX7_isWordHere 47 = .ok (.aload_n 1, 1) := by decide +kernel
theorem dX7_isWordHere_48 : decode cX7_isWordHere 48 = .ok (.iload_n 2, 1) := by decide +kernel
theorem dX7_isWordHere_49 : decode cX7_isWordHere 49 = .ok (.invokevirtual 121, 3) := by decide +kernel
theorem dX7_isWordHere_52 : decode cX7_isWordHere 52 = .ok (.if_icmp .eq 5, 3) := by decide +kernel
theorem dX7_isWordHere_55 : decode cX7_isWordHere 55 = .ok (.iconst 0, 1) := by decide +kernel
theorem dX7_isWordHere_56 : decode cX7_isWordHere 56 = .ok (.ireturn, 1) := by decide +kernel
theorem dX7_isWordHere_57 : decode cX7_isWordHere 57 = .ok (.iinc 2 1, 3) := by decide +kernel
theorem dX7_isWordHere_60 : decode cX7_isWordHere 60 = .ok (.goto (-32), 3) := by decide +kernel
theorem dX7_isWordHere_63 : decode cX7_isWordHere 63 = .ok (.iconst 1, 1) := by decide +kernel
theorem dX7_isWordHere_64 : decode cX7_isWordHere 64 = .ok (.ireturn, 1) := by decide +kernel
theorem dX8_init_0 : decode cX8_init 0 = .ok (.aload_n 0, 1) := by decide +kernel
theorem dX8_init_1 : decode cX8_init 1 = .ok (.invokespecial 3, 3) := by decide +kernel
theorem dX8_init_4 : decode cX8_init 4 = .ok (.aload_n 0, 1) := by decide +kernel
theorem dX8_init_5 : decode cX8_init 5 = .ok (.bipush 14, 2) := by decide +kernel
theorem dX8_init_7 : decode cX8_init 7 = .ok (.newarray .int, 2) := by decide +kernel
theorem dX8_init_9 : decode cX8_init 9 = .ok (.putfield 9, 3) := by decide +kernel
theorem dX8_init_12 : decode cX8_init 12 = .ok (.aload_n 0, 1) := by decide +kernel
theorem dX8_init_13 : decode cX8_init 13 = .ok (.bipush 14, 2) := by decide +kernel
theorem dX8_init_15 : decode cX8_init 15 = .ok (.newarray .int, 2) := by decide +kernel
theorem dX8_init_17 : decode cX8_init 17 = .ok (.putfield 15, 3) := by decide +kernel
theorem dX8_init_20 : decode cX8_init 20 = .ok (.aload_n 0, 1) := by decide +kernel
theorem dX8_init_21 : decode cX8_init 21 = .ok (.bipush 14, 2) := by decide +kernel
theorem dX8_init_23 : decode cX8_init 23 = .ok (.newarray .int, 2) := by decide +kernel
theorem dX8_init_25 : decode cX8_init 25 = .ok (.putfield 18, 3) := by decide +kernel
theorem dX8_init_28 : decode cX8_init 28 = .ok (.aload_n 0, 1) := by decide +kernel
theorem dX8_init_29 : decode cX8_init 29 = .ok (.bipush 14, 2) := by decide +kernel
theorem dX8_init_31 : decode cX8_init 31 = .ok (.newarray .int, 2) := by decide +kernel
theorem dX8_init_33 : decode cX8_init 33 = .ok (.putfield 21, 3) := by decide +kernel
theorem dX8_init_36 : decode cX8_init 36 = .ok (.aload_n 0, 1) := by decide +kernel
theorem dX8_init_37 : decode cX8_init 37 = .ok (.sipush 1344, 3) := by decide +kernel
theorem dX8_init_40 : decode cX8_init 40 = .ok (.newarray .int, 2) := by decide +kernel
theorem dX8_init_42 : decode cX8_init 42 = .ok (.putfield 24, 3) := by decide +kernel
theorem dX8_init_45 : decode cX8_init 45 = .ok (.aload_n 0, 1) := by decide +kernel
theorem dX8_init_46 : decode cX8_init 46 = .ok (.bipush 96, 2) := by decide +kernel
theorem dX8_init_48 : decode cX8_init 48 = .ok (.newarray .int, 2) := by decide +kernel
theorem dX8_init_50 : decode cX8_init 50 = .ok (.putfield 27, 3) := by decide +kernel
theorem dX8_init_53 : decode cX8_init 53 = .ok (.return_, 1) := by decide +kernel
theorem dX8_become_0 : decode cX8_become 0 = .ok (.aload_n 0, 1) := by decide +kernel
theorem dX8_become_1 : decode cX8_become 1 = .ok (.aload_n 1, 1) := by decide +kernel
theorem dX8_become_2 : decode cX8_become 2 = .ok (.getfield 30, 3) := by decide +kernel
theorem dX8_become_5 : decode cX8_become 5 = .ok (.putfield 30, 3) := by decide +kernel
theorem dX8_become_8 : decode cX8_become 8 = .ok (.aload_n 1, 1) := by decide +kernel
theorem dX8_become_9 : decode cX8_become 9 = .ok (.getfield 9, 3) := by decide +kernel
theorem dX8_become_12 : decode cX8_become 12 = .ok (.iconst 0, 1) := by decide +kernel
theorem dX8_become_13 : decode cX8_become 13 = .ok (.aload_n 0, 1) := by decide +kernel
theorem dX8_become_14 : decode cX8_become 14 = .ok (.getfield 9, 3) := by decide +kernel
theorem dX8_become_17 : decode cX8_become 17 = .ok (.iconst 0, 1) := by decide +kernel
theorem dX8_become_18 : decode cX8_become 18 = .ok (.bipush 14, 2) := by decide +kernel
theorem dX8_become_20 : decode cX8_become 20 = .ok (.invokestatic 34, 3) := by decide +kernel
theorem dX8_become_23 : decode cX8_become 23 = .ok (.aload_n 1, 1) := by decide +kernel
theorem dX8_become_24 : decode cX8_become 24 = .ok (.getfield 15, 3) := by decide +kernel
theorem dX8_become_27 : decode cX8_become 27 = .ok (.iconst 0, 1) := by decide +kernel
theorem dX8_become_28 : decode cX8_become 28 = .ok (.aload_n 0, 1) := by decide +kernel
theorem dX8_become_29 : decode cX8_become 29 = .ok (.getfield 15, 3) := by decide +kernel
theorem dX8_become_32 : decode cX8_become 32 = .ok (.iconst 0, 1) := by decide +kernel
theorem dX8_become_33 : decode cX8_become 33 = .ok (.bipush 14, 2) := by decide +kernel
theorem dX8_become_35 : decode cX8_become 35 = .ok (.invokestatic 34, 3) := by decide +kernel
theorem dX8_become_38 : decode cX8_become 38 = .ok (.aload_n 1, 1) := by decide +kernel
theorem dX8_become_39 : decode cX8_become 39 = .ok (.getfield 18, 3) := by decide +kernel
theorem dX8_become_42 : decode cX8_become 42 = .ok (.iconst 0, 1) := by decide +kernel
theorem dX8_become_43 : decode cX8_become 43 = .ok (.aload_n 0, 1) := by decide +kernel
theorem dX8_become_44 : decode cX8_become 44 = .ok (.getfield 18, 3) := by decide +kernel
theorem dX8_become_47 : decode cX8_become 47 = .ok (.iconst 0, 1) := by decide +kernel
theorem dX8_become_48 : decode cX8_become 48 = .ok (.bipush 14, 2) := by decide +kernel
theorem dX8_become_50 : decode cX8_become 50 = .ok (.invokestatic 34, 3) := by decide +kernel
theorem dX8_become_53 : decode cX8_become 53 = .ok (.aload_n 1, 1) := by decide +kernel
theorem dX8_become_54 : decode cX8_become 54 = .ok (.getfield 21, 3) := by decide +kernel
theorem dX8_become_57 : decode cX8_become 57 = .ok (.iconst 0, 1) := by decide +kernel
theorem dX8_become_58 : decode cX8_become 58 = .ok (.aload_n 0, 1) := by decide +kernel
theorem dX8_become_59 : decode cX8_become 59 = .ok (.getfield 21, 3) := by decide +kernel
theorem dX8_become_62 : decode cX8_become 62 = .ok (.iconst 0, 1) := by decide +kernel
theorem dX8_become_63 : decode cX8_become 63 = .ok (.bipush 14, 2) := by decide +kernel
theorem dX8_become_65 : decode cX8_become 65 = .ok (.invokestatic 34, 3) := by decide +kernel
theorem dX8_become_68 : decode cX8_become 68 = .ok (.aload_n 1, 1) := by decide +kernel
theorem dX8_become_69 : decode cX8_become 69 = .ok (.getfield 24, 3) := by decide +kernel
theorem dX8_become_72 : decode cX8_become 72 = .ok (.iconst 0, 1) := by decide +kernel
theorem dX8_become_73 : decode cX8_become 73 = .ok (.aload_n 0, 1) := by decide +kernel
theorem dX8_become_74 : decode cX8_become 74 = .ok (.getfield 24, 3) := by decide +kernel
theorem dX8_become_77 : decode cX8_become 77 = .ok (.iconst 0, 1) := by decide +kernel
theorem dX8_become_78 : decode cX8_become 78 = .ok (.sipush 1344, 3) := by decide +kernel
theorem dX8_become_81 : decode cX8_become 81 = .ok (.invokestatic 34, 3) := by decide +kernel
theorem dX8_become_84 : decode cX8_become 84 = .ok (.return_, 1) := by decide +kernel
theorem dX8_add_0 : decode cX8_add 0 = .ok (.aload_n 0, 1) := by decide +kernel
theorem dX8_add_1 : decode cX8_add 1 = .ok (.getfield 30, 3) := by decide +kernel
theorem dX8_add_4 : decode cX8_add 4 = .ok (.bipush 14, 2) := by decide +kernel
theorem dX8_add_6 : decode cX8_add 6 = .ok (.if_icmp .lt 6, 3) := by decide +kernel
theorem dX8_add_9 : decode cX8_add 9 = .ok (.ldc 40, 2) := by decide +kernel
theorem dX8_add_11 : decode cX8_add 11 = .ok (.ireturn, 1) := by decide +kernel
theorem dX8_add_12 : decode cX8_add 12 = .ok (.aload_n 0, 1) := by decide +kernel
theorem dX8_add_13 : decode cX8_add 13 = .ok (.getfield 9, 3) := by decide +kernel
theorem dX8_add_16 : decode cX8_add 16 = .ok (.aload_n 0, 1) := by decide +kernel
theorem dX8_add_17 : decode cX8_add 17 = .ok (.getfield 30, 3) := by decide +kernel
theorem dX8_add_20 : decode cX8_add 20 = .ok (.aload_n 1, 1) := by decide +kernel
theorem dX8_add_21 : decode cX8_add 21 = .ok (.getfield 41, 3) := by decide +kernel
theorem dX8_add_24 : decode cX8_add 24 = .ok (.iastore, 1) := by decide +kernel
theorem dX8_add_25 : decode cX8_add 25 = .ok (.aload_n 0, 1) := by decide +kernel
theorem dX8_add_26 : decode cX8_add 26 = .ok (.getfield 15, 3) := by decide +kernel
theorem dX8_add_29 : decode cX8_add 29 = .ok (.aload_n 0, 1) := by decide +kernel
theorem dX8_add_30 : decode cX8_add 30 = .ok (.getfield 30, 3) := by decide +kernel
theorem dX8_add_33 : decode cX8_add 33 = .ok (.aload_n 1, 1) := by decide +kernel
theorem dX8_add_34 : decode cX8_add 34 = .ok (.getfield 45, 3) := by decide +kernel
theorem dX8_add_37 : decode cX8_add 37 = .ok (.iastore, 1) := by decide +kernel
theorem dX8_add_38 : decode cX8_add 38 = .ok (.aload_n 0, 1) := by decide +kernel
theorem dX8_add_39 : decode cX8_add 39 = .ok (.getfield 18, 3) := by decide +kernel
theorem dX8_add_42 : decode cX8_add 42 = .ok (.aload_n 0, 1) := by decide +kernel
theorem dX8_add_43 : decode cX8_add 43 = .ok (.getfield 30, 3) := by decide +kernel
theorem dX8_add_46 : decode cX8_add 46 = .ok (.aload_n 1, 1) := by decide +kernel
theorem dX8_add_47 : decode cX8_add 47 = .ok (.getfield 47, 3) := by decide +kernel
theorem dX8_add_50 : decode cX8_add 50 = .ok (.iastore, 1) := by decide +kernel
theorem dX8_add_51 : decode cX8_add 51 = .ok (.aload_n 0, 1) := by decide +kernel
theorem dX8_add_52 : decode cX8_add 52 = .ok (.getfield 21, 3) := by decide +kernel
theorem dX8_add_55 : decode cX8_add 55 = .ok (.aload_n 0, 1) := by decide +kernel
theorem dX8_add_56 : decode cX8_add 56 = .ok (.getfield 30, 3) := by decide +kernel
theorem dX8_add_59 : decode cX8_add 59 = .ok (.aload_n 1, 1) := by decide +kernel
theorem dX8_add_60 : decode cX8_add 60 = .ok (.getfield 49, 3) := by decide +kernel
theorem dX8_add_63 : decode cX8_add 63 = .ok (.iastore, 1) := by decide +kernel
theorem dX8_add_64 : decode cX8_add 64 = .ok (.aload_n 1, 1) := by decide +kernel
theorem dX8_add_65 : decode cX8_add 65 = .ok (.getfield 52, 3) := by decide +kernel
theorem dX8_add_68 : decode cX8_add 68 = .ok (.iconst 0, 1) := by decide +kernel
theorem dX8_add_69 : decode cX8_add 69 = .ok (.aload_n 0, 1) := by decide +kernel
theorem dX8_add_70 : decode cX8_add 70 = .ok (.getfield 24, 3) := by decide +kernel
theorem dX8_add_73 : decode cX8_add 73 = .ok (.aload_n 0, 1) := by decide +kernel
theorem dX8_add_74 : decode cX8_add 74 = .ok (.getfield 30, 3) := by decide +kernel
theorem dX8_add_77 : decode cX8_add 77 = .ok (.bipush 96, 2) := by decide +kernel
theorem dX8_add_79 : decode cX8_add 79 = .ok (.imul, 1) := by decide +kernel
theorem dX8_add_80 : decode cX8_add 80 = .ok (.bipush 96, 2) := by decide +kernel
theorem dX8_add_82 : decode cX8_add 82 = .ok (.invokestatic 34, 3) := by decide +kernel
theorem dX8_add_85 : decode cX8_add 85 = .ok (.aload_n 0, 1) := by decide +kernel
theorem dX8_add_86 : decode cX8_add 86 = .ok (.dup, 1) := by decide +kernel
theorem dX8_add_87 : decode cX8_add 87 = .ok (.getfield 30, 3) := by decide +kernel
theorem dX8_add_90 : decode cX8_add 90 = .ok (.iconst 1, 1) := by decide +kernel
theorem dX8_add_91 : decode cX8_add 91 = .ok (.iadd, 1) := by decide +kernel
theorem dX8_add_92 : decode cX8_add 92 = .ok (.putfield 30, 3) := by decide +kernel
theorem dX8_add_95 : decode cX8_add 95 = .ok (.aload_n 0, 1) := by decide +kernel
theorem dX8_add_96 : decode cX8_add 96 = .ok (.getfield 30, 3) := by decide +kernel
theorem dX8_add_99 : decode cX8_add 99 = .ok (.iconst 1, 1) := by decide +kernel
theorem dX8_add_100 : decode cX8_add 100 = .ok (.isub, 1) := by decide +kernel
theorem dX8_add_101 : decode cX8_add 101 = .ok (.ireturn, 1) := by decide +kernel
theorem dX8_latest_0 : decode cX8_latest 0 = .ok (.aload_n 0, 1) := by decide +kernel
theorem dX8_latest_1 : decode cX8_latest 1 = .ok (.getfield 30, 3) := by decide +kernel
theorem dX8_latest_4 : decode cX8_latest 4 = .ok (.iconst 1, 1) := by decide +kernel
theorem dX8_latest_5 : decode cX8_latest 5 = .ok (.isub, 1) := by decide +kernel
theorem dX8_latest_6 : decode cX8_latest 6 = .ok (.istore_n 3, 1) := by decide +kernel
theorem dX8_latest_7 : decode cX8_latest 7 = .ok (.iload_n 3, 1) := by decide +kernel
theorem dX8_latest_8 : decode cX8_latest 8 = .ok (.ifCond .lt 35, 3) := by decide +kernel
theorem dX8_latest_11 : decode cX8_latest 11 = .ok (.aload_n 0, 1) := by decide +kernel
theorem dX8_latest_12 : decode cX8_latest 12 = .ok (.getfield 9, 3) := by decide +kernel
theorem dX8_latest_15 : decode cX8_latest 15 = .ok (.iload_n 3, 1) := by decide +kernel
theorem dX8_latest_16 : decode cX8_latest 16 = .ok (.iaload, 1) := by decide +kernel
theorem dX8_latest_17 : decode cX8_latest 17 = .ok (.iload_n 1, 1) := by decide +kernel
theorem dX8_latest_18 : decode cX8_latest 18 = .ok (.if_icmp .ne 19, 3) := by decide +kernel
theorem dX8_latest_21 : decode cX8_latest 21 = .ok (.iload_n 1, 1) := by decide +kernel
theorem dX8_latest_22 : decode cX8_latest 22 = .ok (.ifCond .ne 13, 3) := by decide +kernel
theorem dX8_latest_25 : decode cX8_latest 25 = .ok (.aload_n 0, 1) := by decide +kernel
theorem dX8_latest_26 : decode cX8_latest 26 = .ok (.getfield 15, 3) := by decide +kernel
theorem dX8_latest_29 : decode cX8_latest 29 = .ok (.iload_n 3, 1) := by decide +kernel
theorem dX8_latest_30 : decode cX8_latest 30 = .ok (.iaload, 1) := by decide +kernel
theorem dX8_latest_31 : decode cX8_latest 31 = .ok (.iload_n 2, 1) := by decide +kernel
theorem dX8_latest_32 : decode cX8_latest 32 = .ok (.if_icmp .ne 5, 3) := by decide +kernel
theorem dX8_latest_35 : decode cX8_latest 35 = .ok (.iload_n 3, 1) := by decide +kernel
theorem dX8_latest_36 : decode cX8_latest 36 = .ok (.ireturn, 1) := by decide +kernel
theorem dX8_latest_37 : decode cX8_latest 37 = .ok (.iinc 3 (-1), 3) := by decide +kernel
theorem dX8_latest_40 : decode cX8_latest 40 = .ok (.goto (-33), 3) := by decide +kernel
theorem dX8_latest_43 : decode cX8_latest 43 = .ok (.ldc 53, 2) := by decide +kernel
theorem dX8_latest_45 : decode cX8_latest 45 = .ok (.ireturn, 1) := by decide +kernel
theorem dX8_give_0 : decode cX8_give 0 = .ok (.iload_n 1, 1) := by decide +kernel
theorem dX8_give_1 : decode cX8_give 1 = .ok (.ifCond .lt 11, 3) := by decide +kernel
theorem dX8_give_4 : decode cX8_give 4 = .ok (.iload_n 1, 1) := by decide +kernel
theorem dX8_give_5 : decode cX8_give 5 = .ok (.aload_n 0, 1) := by decide +kernel
theorem dX8_give_6 : decode cX8_give 6 = .ok (.getfield 30, 3) := by decide +kernel
theorem dX8_give_9 : decode cX8_give 9 = .ok (.if_icmp .lt 5, 3) := by decide +kernel
theorem dX8_give_12 : decode cX8_give 12 = .ok (.iconst 0, 1) := by decide +kernel
theorem dX8_give_13 : decode cX8_give 13 = .ok (.ireturn, 1) := by decide +kernel
theorem dX8_give_14 : decode cX8_give 14 = .ok (.iconst 0, 1) := by decide +kernel
theorem dX8_give_15 : decode cX8_give 15 = .ok (.istore 5, 2) := by decide +kernel
theorem dX8_give_17 : decode cX8_give 17 = .ok (.iconst 0, 1) := by decide +kernel
theorem dX8_give_18 : decode cX8_give 18 = .ok (.istore 6, 2) := by decide +kernel
theorem dX8_give_20 : decode cX8_give 20 = .ok (.iload 6, 2) := by decide +kernel
theorem dX8_give_22 : decode cX8_give 22 = .ok (.aload_n 0, 1) := by decide +kernel
theorem dX8_give_23 : decode cX8_give 23 = .ok (.getfield 21, 3) := by decide +kernel
theorem dX8_give_26 : decode cX8_give 26 = .ok (.iload_n 1, 1) := by decide +kernel
theorem dX8_give_27 : decode cX8_give 27 = .ok (.iaload, 1) := by decide +kernel
theorem dX8_give_28 : decode cX8_give 28 = .ok (.if_icmp .ge 173, 3) := by decide +kernel
theorem dX8_give_31 : decode cX8_give 31 = .ok (.aload_n 0, 1) := by decide +kernel
theorem dX8_give_32 : decode cX8_give 32 = .ok (.getfield 24, 3) := by decide +kernel
theorem dX8_give_35 : decode cX8_give 35 = .ok (.iload_n 1, 1) := by decide +kernel
theorem dX8_give_36 : decode cX8_give 36 = .ok (.bipush 96, 2) := by decide +kernel
theorem dX8_give_38 : decode cX8_give 38 = .ok (.imul, 1) := by decide +kernel
theorem dX8_give_39 : decode cX8_give 39 = .ok (.iload 6, 2) := by decide +kernel
theorem dX8_give_41 : decode cX8_give 41 = .ok (.iadd, 1) := by decide +kernel
theorem dX8_give_42 : decode cX8_give 42 = .ok (.iaload, 1) := by decide +kernel
theorem dX8_give_43 : decode cX8_give 43 = .ok (.istore 7, 2) := by decide +kernel
theorem dX8_give_45 : decode cX8_give 45 = .ok (.iload 7, 2) := by decide +kernel
theorem dX8_give_47 : decode cX8_give 47 = .ok (.bipush (-3), 2) := by decide +kernel
theorem dX8_give_49 : decode cX8_give 49 = .ok (.if_icmp .lt 58, 3) := by decide +kernel
theorem dX8_give_52 : decode cX8_give 52 = .ok (.iload 5, 2) := by decide +kernel
theorem dX8_give_54 : decode cX8_give 54 = .ok (.bipush 96, 2) := by decide +kernel
theorem dX8_give_56 : decode cX8_give 56 = .ok (.if_icmp .lt 5, 3) := by decide +kernel
theorem dX8_give_59 : decode cX8_give 59 = .ok (.iconst 0, 1) := by decide +kernel
theorem dX8_give_60 : decode cX8_give 60 = .ok (.ireturn, 1) := by decide +kernel
theorem dX8_give_61 : decode cX8_give 61 = .ok (.aload_n 0, 1) := by decide +kernel
theorem dX8_give_62 : decode cX8_give 62 = .ok (.getfield 27, 3) := by decide +kernel
theorem dX8_give_65 : decode cX8_give 65 = .ok (.iload 5, 2) := by decide +kernel
theorem dX8_give_67 : decode cX8_give 67 = .ok (.iload 7, 2) := by decide +kernel
theorem dX8_give_69 : decode cX8_give 69 = .ok (.ifCond .lt 8, 3) := by decide +kernel
theorem dX8_give_72 : decode cX8_give 72 = .ok (.iload 7, 2) := by decide +kernel
theorem dX8_give_74 : decode cX8_give 74 = .ok (.goto 26, 3) := by decide +kernel
theorem dX8_give_77 : decode cX8_give 77 = .ok (.iload 7, 2) := by decide +kernel
theorem dX8_give_79 : decode cX8_give 79 = .ok (.iconst (-1), 1) := by decide +kernel
theorem dX8_give_80 : decode cX8_give 80 = .ok (.if_icmp .ne 7, 3) := by decide +kernel
theorem dX8_give_83 : decode cX8_give 83 = .ok (.iload_n 2, 1) := by decide +kernel
theorem dX8_give_84 : decode cX8_give 84 = .ok (.goto 16, 3) := by decide +kernel
theorem dX8_give_87 : decode cX8_give 87 = .ok (.iload 7, 2) := by decide +kernel
theorem dX8_give_89 : decode cX8_give 89 = .ok (.bipush (-2), 2) := by decide +kernel
theorem dX8_give_91 : decode cX8_give 91 = .ok (.if_icmp .ne 7, 3) := by decide +kernel
theorem dX8_give_94 : decode cX8_give 94 = .ok (.iload_n 3, 1) := by decide +kernel
theorem dX8_give_95 : decode cX8_give 95 = .ok (.goto 5, 3) := by decide +kernel
theorem dX8_give_98 : decode cX8_give 98 = .ok (.iload 4, 2) := by decide +kernel
theorem dX8_give_100 : decode cX8_give 100 = .ok (.iastore, 1) := by decide +kernel
theorem dX8_give_101 : decode cX8_give 101 = .ok (.iinc 5 1, 3) := by decide +kernel
theorem dX8_give_104 : decode cX8_give 104 = .ok (.goto 91, 3) := by decide +kernel
theorem dX8_give_107 : decode cX8_give 107 = .ok (.iload 7, 2) := by decide +kernel
theorem dX8_give_109 : decode cX8_give 109 = .ok (.bipush (-33), 2) := by decide +kernel
theorem dX8_give_111 : decode cX8_give 111 = .ok (.if_icmp .ne 40, 3) := by decide +kernel
theorem dX8_give_114 : decode cX8_give 114 = .ok (.iload 5, 2) := by decide +kernel
theorem dX8_give_116 : decode cX8_give 116 = .ok (.iconst 1, 1) := by decide +kernel
theorem dX8_give_117 : decode cX8_give 117 = .ok (.if_icmp .ge 5, 3) := by decide +kernel
theorem dX8_give_120 : decode cX8_give 120 = .ok (.iconst 0, 1) := by decide +kernel
theorem dX8_give_121 : decode cX8_give 121 = .ok (.ireturn, 1) := by decide +kernel
theorem dX8_give_122 : decode cX8_give 122 = .ok (.aload_n 0, 1) := by decide +kernel
theorem dX8_give_123 : decode cX8_give 123 = .ok (.getfield 27, 3) := by decide +kernel
theorem dX8_give_126 : decode cX8_give 126 = .ok (.iload 5, 2) := by decide +kernel
theorem dX8_give_128 : decode cX8_give 128 = .ok (.iconst 1, 1) := by decide +kernel
theorem dX8_give_129 : decode cX8_give 129 = .ok (.isub, 1) := by decide +kernel
theorem dX8_give_130 : decode cX8_give 130 = .ok (.aload_n 0, 1) := by decide +kernel
theorem dX8_give_131 : decode cX8_give 131 = .ok (.getfield 27, 3) := by decide +kernel
theorem dX8_give_134 : decode cX8_give 134 = .ok (.iload 5, 2) := by decide +kernel
theorem dX8_give_136 : decode cX8_give 136 = .ok (.iconst 1, 1) := by decide +kernel
theorem dX8_give_137 : decode cX8_give 137 = .ok (.isub, 1) := by decide +kernel
theorem dX8_give_138 : decode cX8_give 138 = .ok (.iaload, 1) := by decide +kernel
theorem dX8_give_139 : decode cX8_give 139 = .ok (.ifCond .ne 7, 3) := by decide +kernel
theorem dX8_give_142 : decode cX8_give 142 = .ok (.iconst 1, 1) := by decide +kernel
theorem dX8_give_143 : decode cX8_give 143 = .ok (.goto 4, 3) := by decide +kernel
theorem dX8_give_146 : decode cX8_give 146 = .ok (.iconst 0, 1) := by decide +kernel
theorem dX8_give_147 : decode cX8_give 147 = .ok (.iastore, 1) := by decide +kernel
theorem dX8_give_148 : decode cX8_give 148 = .ok (.goto 47, 3) := by decide +kernel
theorem dX8_give_151 : decode cX8_give 151 = .ok (.iload 5, 2) := by decide +kernel
theorem dX8_give_153 : decode cX8_give 153 = .ok (.iconst 2, 1) := by decide +kernel
theorem dX8_give_154 : decode cX8_give 154 = .ok (.if_icmp .ge 5, 3) := by decide +kernel
theorem dX8_give_157 : decode cX8_give 157 = .ok (.iconst 0, 1) := by decide +kernel
theorem dX8_give_158 : decode cX8_give 158 = .ok (.ireturn, 1) := by decide +kernel
theorem dX8_give_159 : decode cX8_give 159 = .ok (.aload_n 0, 1) := by decide +kernel
theorem dX8_give_160 : decode cX8_give 160 = .ok (.getfield 27, 3) := by decide +kernel
theorem dX8_give_163 : decode cX8_give 163 = .ok (.iload 5, 2) := by decide +kernel
theorem dX8_give_165 : decode cX8_give 165 = .ok (.iconst 2, 1) := by decide +kernel
theorem dX8_give_166 : decode cX8_give 166 = .ok (.isub, 1) := by decide +kernel
theorem dX8_give_167 : decode cX8_give 167 = .ok (.iload 7, 2) := by decide +kernel
theorem dX8_give_169 : decode cX8_give 169 = .ok (.ineg, 1) := by decide +kernel
theorem dX8_give_170 : decode cX8_give 170 = .ok (.aload_n 0, 1) := by decide +kernel
theorem dX8_give_171 : decode cX8_give 171 = .ok (.getfield 27, 3) := by decide +kernel
theorem dX8_give_174 : decode cX8_give 174 = .ok (.iload 5, 2) := by decide +kernel
theorem dX8_give_176 : decode cX8_give 176 = .ok (.iconst 2, 1) := by decide +kernel
theorem dX8_give_177 : decode cX8_give 177 = .ok (.isub, 1) := by decide +kernel
theorem dX8_give_178 : decode cX8_give 178 = .ok (.iaload, 1) := by decide +kernel
theorem dX8_give_179 : decode cX8_give 179 = .ok (.aload_n 0, 1) := by decide +kernel
theorem dX8_give_180 : decode cX8_give 180 = .ok (.getfield 27, 3) := by decide +kernel
theorem dX8_give_183 : decode cX8_give 183 = .ok (.iload 5, 2) := by decide +kernel
theorem dX8_give_185 : decode cX8_give 185 = .ok (.iconst 1, 1) := by decide +kernel
theorem dX8_give_186 : decode cX8_give 186 = .ok (.isub, 1) := by decide +kernel
theorem dX8_give_187 : decode cX8_give 187 = .ok (.iaload, 1) := by decide +kernel
theorem dX8_give_188 : decode cX8_give 188 = .ok (.invokestatic 54, 3) := by decide +kernel
theorem dX8_give_191 : decode cX8_give 191 = .ok (.iastore, 1) := by decide +kernel
theorem dX8_give_192 : decode cX8_give 192 = .ok (.iinc 5 (-1), 3) := by decide +kernel
theorem dX8_give_195 : decode cX8_give 195 = .ok (.iinc 6 1, 3) := by decide +kernel
theorem dX8_give_198 : decode cX8_give 198 = .ok (.goto (-178), 3) := by decide +kernel
theorem dX8_give_201 : decode cX8_give 201 = .ok (.iload 5, 2) := by decide +kernel
theorem dX8_give_203 : decode cX8_give 203 = .ok (.ifCond .le 15, 3) := by decide +kernel
theorem dX8_give_206 : decode cX8_give 206 = .ok (.aload_n 0, 1) := by decide +kernel
theorem dX8_give_207 : decode cX8_give 207 = .ok (.getfield 27, 3) := by decide +kernel
theorem dX8_give_210 : decode cX8_give 210 = .ok (.iload 5, 2) := by decide +kernel
theorem dX8_give_212 : decode cX8_give 212 = .ok (.iconst 1, 1) := by decide +kernel
theorem dX8_give_213 : decode cX8_give 213 = .ok (.isub, 1) := by decide +kernel
theorem dX8_give_214 : decode cX8_give 214 = .ok (.iaload, 1) := by decide +kernel
theorem dX8_give_215 : decode cX8_give 215 = .ok (.goto 4, 3) := by decide +kernel
theorem dX8_give_218 : decode cX8_give 218 = .ok (.iconst 0, 1) := by decide +kernel
theorem dX8_give_219 : decode cX8_give 219 = .ok (.ireturn, 1) := by decide +kernel
theorem dX8_join_0 : decode cX8_join 0 = .ok (.iload_n 0, 1) := by decide +kernel
theorem dX8_join_1 : decode cX8_join 1 = .ok (.lookupswitch 168 #[(38, 140), (42, 91), (43, 83), (45, 87), (47, 95), (60, 107), (61, 118), (62, 129), (124, 154)], 83) := by decide +kernel
theorem dX8_join_84 : decode cX8_join 84 = .ok (.iload_n 1, 1) := by decide +kernel
theorem dX8_join_85 : decode cX8_join 85 = .ok (.iload_n 2, 1) := by decide +kernel
theorem dX8_join_86 : decode cX8_join 86 = .ok (.iadd, 1) := by decide +kernel
theorem dX8_join_87 : decode cX8_join 87 = .ok (.ireturn, 1) := by decide +kernel
theorem dX8_join_88 : decode cX8_join 88 = .ok (.iload_n 1, 1) := by decide +kernel
theorem dX8_join_89 : decode cX8_join 89 = .ok (.iload_n 2, 1) := by decide +kernel
theorem dX8_join_90 : decode cX8_join 90 = .ok (.isub, 1) := by decide +kernel
theorem dX8_join_91 : decode cX8_join 91 = .ok (.ireturn, 1) := by decide +kernel
theorem dX8_join_92 : decode cX8_join 92 = .ok (.iload_n 1, 1) := by decide +kernel
theorem dX8_join_93 : decode cX8_join 93 = .ok (.iload_n 2, 1) := by decide +kernel
theorem dX8_join_94 : decode cX8_join 94 = .ok (.imul, 1) := by decide +kernel
theorem dX8_join_95 : decode cX8_join 95 = .ok (.ireturn, 1) := by decide +kernel
theorem dX8_join_96 : decode cX8_join 96 = .ok (.iload_n 2, 1) := by decide +kernel
theorem dX8_join_97 : decode cX8_join 97 = .ok (.ifCond .ne 7, 3) := by decide +kernel
theorem dX8_join_100 : decode cX8_join 100 = .ok (.iconst 0, 1) := by decide +kernel
theorem dX8_join_101 : decode cX8_join 101 = .ok (.goto 6, 3) := by decide +kernel
theorem dX8_join_104 : decode cX8_join 104 = .ok (.iload_n 1, 1) := by decide +kernel
theorem dX8_join_105 : decode cX8_join 105 = .ok (.iload_n 2, 1) := by decide +kernel
theorem dX8_join_106 : decode cX8_join 106 = .ok (.idiv, 1) := by decide +kernel
theorem dX8_join_107 : decode cX8_join 107 = .ok (.ireturn, 1) := by decide +kernel
theorem dX8_join_108 : decode cX8_join 108 = .ok (.iload_n 1, 1) := by decide +kernel
theorem dX8_join_109 : decode cX8_join 109 = .ok (.iload_n 2, 1) := by decide +kernel
theorem dX8_join_110 : decode cX8_join 110 = .ok (.if_icmp .ge 7, 3) := by decide +kernel
theorem dX8_join_113 : decode cX8_join 113 = .ok (.iconst 1, 1) := by decide +kernel
theorem dX8_join_114 : decode cX8_join 114 = .ok (.goto 4, 3) := by decide +kernel
theorem dX8_join_117 : decode cX8_join 117 = .ok (.iconst 0, 1) := by decide +kernel
theorem dX8_join_118 : decode cX8_join 118 = .ok (.ireturn, 1) := by decide +kernel
theorem dX8_join_119 : decode cX8_join 119 = .ok (.iload_n 1, 1) := by decide +kernel
theorem dX8_join_120 : decode cX8_join 120 = .ok (.iload_n 2, 1) := by decide +kernel
theorem dX8_join_121 : decode cX8_join 121 = .ok (.if_icmp .ne 7, 3) := by decide +kernel
theorem dX8_join_124 : decode cX8_join 124 = .ok (.iconst 1, 1) := by decide +kernel
theorem dX8_join_125 : decode cX8_join 125 = .ok (.goto 4, 3) := by decide +kernel
theorem dX8_join_128 : decode cX8_join 128 = .ok (.iconst 0, 1) := by decide +kernel
theorem dX8_join_129 : decode cX8_join 129 = .ok (.ireturn, 1) := by decide +kernel
theorem dX8_join_130 : decode cX8_join 130 = .ok (.iload_n 1, 1) := by decide +kernel
theorem dX8_join_131 : decode cX8_join 131 = .ok (.iload_n 2, 1) := by decide +kernel
theorem dX8_join_132 : decode cX8_join 132 = .ok (.if_icmp .le 7, 3) := by decide +kernel
theorem dX8_join_135 : decode cX8_join 135 = .ok (.iconst 1, 1) := by decide +kernel
theorem dX8_join_136 : decode cX8_join 136 = .ok (.goto 4, 3) := by decide +kernel
theorem dX8_join_139 : decode cX8_join 139 = .ok (.iconst 0, 1) := by decide +kernel
theorem dX8_join_140 : decode cX8_join 140 = .ok (.ireturn, 1) := by decide +kernel
theorem dX8_join_141 : decode cX8_join 141 = .ok (.iload_n 1, 1) := by decide +kernel
theorem dX8_join_142 : decode cX8_join 142 = .ok (.ifCond .eq 11, 3) := by decide +kernel
theorem dX8_join_145 : decode cX8_join 145 = .ok (.iload_n 2, 1) := by decide +kernel
theorem dX8_join_146 : decode cX8_join 146 = .ok (.ifCond .eq 7, 3) := by decide +kernel
theorem dX8_join_149 : decode cX8_join 149 = .ok (.iconst 1, 1) := by decide +kernel
theorem dX8_join_150 : decode cX8_join 150 = .ok (.goto 4, 3) := by decide +kernel
theorem dX8_join_153 : decode cX8_join 153 = .ok (.iconst 0, 1) := by decide +kernel
theorem dX8_join_154 : decode cX8_join 154 = .ok (.ireturn, 1) := by decide +kernel
theorem dX8_join_155 : decode cX8_join 155 = .ok (.iload_n 1, 1) := by decide +kernel
theorem dX8_join_156 : decode cX8_join 156 = .ok (.ifCond .ne 7, 3) := by decide +kernel
theorem dX8_join_159 : decode cX8_join 159 = .ok (.iload_n 2, 1) := by decide +kernel
theorem dX8_join_160 : decode cX8_join 160 = .ok (.ifCond .eq 7, 3) := by decide +kernel
theorem dX8_join_163 : decode cX8_join 163 = .ok (.iconst 1, 1) := by decide +kernel
theorem dX8_join_164 : decode cX8_join 164 = .ok (.goto 4, 3) := by decide +kernel
theorem dX8_join_167 : decode cX8_join 167 = .ok (.iconst 0, 1) := by decide +kernel
theorem dX8_join_168 : decode cX8_join 168 = .ok (.ireturn, 1) := by decide +kernel
theorem dX8_join_169 : decode cX8_join 169 = .ok (.iconst 0, 1) := by decide +kernel
theorem dX8_join_170 : decode cX8_join 170 = .ok (.ireturn, 1) := by decide +kernel
theorem dX9_init_0 : decode cX9_init 0 = .ok (.aload_n 0, 1) := by decide +kernel
theorem dX9_init_1 : decode cX9_init 1 = .ok (.invokespecial 1, 3) := by decide +kernel
theorem dX9_init_4 : decode cX9_init 4 = .ok (.aload_n 0, 1) := by decide +kernel
theorem dX9_init_5 : decode cX9_init 5 = .ok (.new 7, 3) := by decide +kernel
theorem dX9_init_8 : decode cX9_init 8 = .ok (.dup, 1) := by decide +kernel
theorem dX9_init_9 : decode cX9_init 9 = .ok (.invokespecial 9, 3) := by decide +kernel
theorem dX9_init_12 : decode cX9_init 12 = .ok (.putfield 10, 3) := by decide +kernel
theorem dX9_init_15 : decode cX9_init 15 = .ok (.aload_n 0, 1) := by decide +kernel
theorem dX9_init_16 : decode cX9_init 16 = .ok (.new 7, 3) := by decide +kernel
theorem dX9_init_19 : decode cX9_init 19 = .ok (.dup, 1) := by decide +kernel
theorem dX9_init_20 : decode cX9_init 20 = .ok (.invokespecial 9, 3) := by decide +kernel
theorem dX9_init_23 : decode cX9_init 23 = .ok (.putfield 16, 3) := by decide +kernel
theorem dX9_init_26 : decode cX9_init 26 = .ok (.aload_n 0, 1) := by decide +kernel
theorem dX9_init_27 : decode cX9_init 27 = .ok (.new 19, 3) := by decide +kernel
theorem dX9_init_30 : decode cX9_init 30 = .ok (.dup, 1) := by decide +kernel
theorem dX9_init_31 : decode cX9_init 31 = .ok (.invokespecial 21, 3) := by decide +kernel
theorem dX9_init_34 : decode cX9_init 34 = .ok (.putfield 22, 3) := by decide +kernel
theorem dX9_init_37 : decode cX9_init 37 = .ok (.aload_n 0, 1) := by decide +kernel
theorem dX9_init_38 : decode cX9_init 38 = .ok (.bipush 60, 2) := by decide +kernel
theorem dX9_init_40 : decode cX9_init 40 = .ok (.newarray .int, 2) := by decide +kernel
theorem dX9_init_42 : decode cX9_init 42 = .ok (.putfield 26, 3) := by decide +kernel
theorem dX9_init_45 : decode cX9_init 45 = .ok (.aload_n 0, 1) := by decide +kernel
theorem dX9_init_46 : decode cX9_init 46 = .ok (.iconst 4, 1) := by decide +kernel
theorem dX9_init_47 : decode cX9_init 47 = .ok (.anewarray 30, 3) := by decide +kernel
theorem dX9_init_50 : decode cX9_init 50 = .ok (.putfield 32, 3) := by decide +kernel
theorem dX9_init_53 : decode cX9_init 53 = .ok (.aload_n 0, 1) := by decide +kernel
theorem dX9_init_54 : decode cX9_init 54 = .ok (.iconst 5, 1) := by decide +kernel
theorem dX9_init_55 : decode cX9_init 55 = .ok (.anewarray 36, 3) := by decide +kernel
theorem dX9_init_58 : decode cX9_init 58 = .ok (.putfield 38, 3) := by decide +kernel
theorem dX9_init_61 : decode cX9_init 61 = .ok (.iconst 0, 1) := by decide +kernel
theorem dX9_init_62 : decode cX9_init 62 = .ok (.istore_n 1, 1) := by decide +kernel
theorem dX9_init_63 : decode cX9_init 63 = .ok (.iload_n 1, 1) := by decide +kernel
theorem dX9_init_64 : decode cX9_init 64 = .ok (.iconst 4, 1) := by decide +kernel
theorem dX9_init_65 : decode cX9_init 65 = .ok (.if_icmp .ge 22, 3) := by decide +kernel
theorem dX9_init_68 : decode cX9_init 68 = .ok (.aload_n 0, 1) := by decide +kernel
theorem dX9_init_69 : decode cX9_init 69 = .ok (.getfield 32, 3) := by decide +kernel
theorem dX9_init_72 : decode cX9_init 72 = .ok (.iload_n 1, 1) := by decide +kernel
theorem dX9_init_73 : decode cX9_init 73 = .ok (.new 30, 3) := by decide +kernel
theorem dX9_init_76 : decode cX9_init 76 = .ok (.dup, 1) := by decide +kernel
theorem dX9_init_77 : decode cX9_init 77 = .ok (.invokespecial 42, 3) := by decide +kernel
theorem dX9_init_80 : decode cX9_init 80 = .ok (.aastore, 1) := by decide +kernel
theorem dX9_init_81 : decode cX9_init 81 = .ok (.iinc 1 1, 3) := by decide +kernel
theorem dX9_init_84 : decode cX9_init 84 = .ok (.goto (-21), 3) := by decide +kernel
theorem dX9_init_87 : decode cX9_init 87 = .ok (.iconst 0, 1) := by decide +kernel
theorem dX9_init_88 : decode cX9_init 88 = .ok (.istore_n 1, 1) := by decide +kernel
theorem dX9_init_89 : decode cX9_init 89 = .ok (.iload_n 1, 1) := by decide +kernel
theorem dX9_init_90 : decode cX9_init 90 = .ok (.iconst 5, 1) := by decide +kernel
theorem dX9_init_91 : decode cX9_init 91 = .ok (.if_icmp .ge 22, 3) := by decide +kernel
theorem dX9_init_94 : decode cX9_init 94 = .ok (.aload_n 0, 1) := by decide +kernel
theorem dX9_init_95 : decode cX9_init 95 = .ok (.getfield 38, 3) := by decide +kernel
theorem dX9_init_98 : decode cX9_init 98 = .ok (.iload_n 1, 1) := by decide +kernel
theorem dX9_init_99 : decode cX9_init 99 = .ok (.new 36, 3) := by decide +kernel
theorem dX9_init_102 : decode cX9_init 102 = .ok (.dup, 1) := by decide +kernel
theorem dX9_init_103 : decode cX9_init 103 = .ok (.invokespecial 43, 3) := by decide +kernel
theorem dX9_init_106 : decode cX9_init 106 = .ok (.aastore, 1) := by decide +kernel
theorem dX9_init_107 : decode cX9_init 107 = .ok (.iinc 1 1, 3) := by decide +kernel
theorem dX9_init_110 : decode cX9_init 110 = .ok (.goto (-21), 3) := by decide +kernel
theorem dX9_init_113 : decode cX9_init 113 = .ok (.return_, 1) := by decide +kernel
theorem dX9_table_0 : decode cX9_table 0 = .ok (.iload_n 1, 1) := by decide +kernel
theorem dX9_table_1 : decode cX9_table 1 = .ok (.iconst 0, 1) := by decide +kernel
theorem dX9_table_2 : decode cX9_table 2 = .ok (.bipush 59, 2) := by decide +kernel
theorem dX9_table_4 : decode cX9_table 4 = .ok (.invokestatic 44, 3) := by decide +kernel
theorem dX9_table_7 : decode cX9_table 7 = .ok (.ifCond .ne 6, 3) := by decide +kernel
theorem dX9_table_10 : decode cX9_table 10 = .ok (.ldc 48, 2) := by decide +kernel
theorem dX9_table_12 : decode cX9_table 12 = .ok (.ireturn, 1) := by decide +kernel
theorem dX9_table_13 : decode cX9_table 13 = .ok (.aload_n 0, 1) := by decide +kernel
theorem dX9_table_14 : decode cX9_table 14 = .ok (.getfield 10, 3) := by decide +kernel
theorem dX9_table_17 : decode cX9_table 17 = .ok (.getfield 49, 3) := by decide +kernel
theorem dX9_table_20 : decode cX9_table 20 = .ok (.iload_n 1, 1) := by decide +kernel
theorem dX9_table_21 : decode cX9_table 21 = .ok (.invokevirtual 53, 3) := by decide +kernel
theorem dX9_table_24 : decode cX9_table 24 = .ok (.ireturn, 1) := by decide +kernel
theorem dX9_figure_0 : decode cX9_figure 0 = .ok (.aload_n 0, 1) := by decide +kernel
theorem dX9_figure_1 : decode cX9_figure 1 = .ok (.getfield 10, 3) := by decide +kernel
theorem dX9_figure_4 : decode cX9_figure 4 = .ok (.getfield 49, 3) := by decide +kernel
theorem dX9_figure_7 : decode cX9_figure 7 = .ok (.astore 6, 2) := by decide +kernel
theorem dX9_figure_9 : decode cX9_figure 9 = .ok (.aload 6, 2) := by decide +kernel
theorem dX9_figure_11 : decode cX9_figure 11 = .ok (.iload_n 1, 1) := by decide +kernel
theorem dX9_figure_12 : decode cX9_figure 12 = .ok (.invokevirtual 59, 3) := by decide +kernel
theorem dX9_figure_15 : decode cX9_figure 15 = .ok (.ifCond .eq 29, 3) := by decide +kernel
theorem dX9_figure_18 : decode cX9_figure 18 = .ok (.iload_n 2, 1) := by decide +kernel
theorem dX9_figure_19 : decode cX9_figure 19 = .ok (.invokestatic 63, 3) := by decide +kernel
theorem dX9_figure_22 : decode cX9_figure 22 = .ok (.ifCond .eq 22, 3) := by decide +kernel
theorem dX9_figure_25 : decode cX9_figure 25 = .ok (.iload_n 3, 1) := by decide +kernel
theorem dX9_figure_26 : decode cX9_figure 26 = .ok (.iconst 0, 1) := by decide +kernel
theorem dX9_figure_27 : decode cX9_figure 27 = .ok (.sipush 9999, 3) := by decide +kernel
theorem dX9_figure_30 : decode cX9_figure 30 = .ok (.invokestatic 44, 3) := by decide +kernel
theorem dX9_figure_33 : decode cX9_figure 33 = .ok (.ifCond .eq 11, 3) := by decide +kernel
theorem dX9_figure_36 : decode cX9_figure 36 = .ok (.iload 4, 2) := by decide +kernel
theorem dX9_figure_38 : decode cX9_figure 38 = .ok (.invokestatic 66, 3) := by decide +kernel
theorem dX9_figure_41 : decode cX9_figure 41 = .ok (.ifCond .ne 6, 3) := by decide +kernel
theorem dX9_figure_44 : decode cX9_figure 44 = .ok (.ldc 48, 2) := by decide +kernel
theorem dX9_figure_46 : decode cX9_figure 46 = .ok (.ireturn, 1) := by decide +kernel
theorem dX9_figure_47 : decode cX9_figure 47 = .ok (.iload 5, 2) := by decide +kernel
theorem dX9_figure_49 : decode cX9_figure 49 = .ok (.iconst (-1), 1) := by decide +kernel
theorem dX9_figure_50 : decode cX9_figure 50 = .ok (.if_icmp .eq 28, 3) := by decide +kernel
theorem dX9_figure_53 : decode cX9_figure 53 = .ok (.aload 6, 2) := by decide +kernel
theorem dX9_figure_55 : decode cX9_figure 55 = .ok (.iload 5, 2) := by decide +kernel
theorem dX9_figure_57 : decode cX9_figure 57 = .ok (.invokevirtual 69, 3) := by decide +kernel
theorem dX9_figure_60 : decode cX9_figure 60 = .ok (.ifCond .eq 15, 3) := by decide +kernel
theorem dX9_figure_63 : decode cX9_figure 63 = .ok (.aload 6, 2) := by decide +kernel
theorem dX9_figure_65 : decode cX9_figure 65 = .ok (.getfield 72, 3) := by decide +kernel
theorem dX9_figure_68 : decode cX9_figure 68 = .ok (.iload 5, 2) := by decide +kernel
theorem dX9_figure_70 : decode cX9_figure 70 = .ok (.iaload, 1) := by decide +kernel
theorem dX9_figure_71 : decode cX9_figure 71 = .ok (.iload_n 1, 1) := by decide +kernel
theorem dX9_figure_72 : decode cX9_figure 72 = .ok (.if_icmp .le 6, 3) := by decide +kernel
theorem dX9_figure_75 : decode cX9_figure 75 = .ok (.ldc 48, 2) := by decide +kernel
theorem dX9_figure_77 : decode cX9_figure 77 = .ok (.ireturn, 1) := by decide +kernel
theorem dX9_figure_78 : decode cX9_figure 78 = .ok (.aload 6, 2) := by decide +kernel
theorem dX9_figure_80 : decode cX9_figure 80 = .ok (.getfield 75, 3) := by decide +kernel
theorem dX9_figure_83 : decode cX9_figure 83 = .ok (.bipush 40, 2) := by decide +kernel
theorem dX9_figure_85 : decode cX9_figure 85 = .ok (.if_icmp .lt 6, 3) := by decide +kernel
theorem dX9_figure_88 : decode cX9_figure 88 = .ok (.ldc 79, 2) := by decide +kernel
theorem dX9_figure_90 : decode cX9_figure 90 = .ok (.ireturn, 1) := by decide +kernel
theorem dX9_figure_91 : decode cX9_figure 91 = .ok (.aload 6, 2) := by decide +kernel
theorem dX9_figure_93 : decode cX9_figure 93 = .ok (.iload_n 1, 1) := by decide +kernel
theorem dX9_figure_94 : decode cX9_figure 94 = .ok (.iload_n 2, 1) := by decide +kernel
theorem dX9_figure_95 : decode cX9_figure 95 = .ok (.iload_n 3, 1) := by decide +kernel
theorem dX9_figure_96 : decode cX9_figure 96 = .ok (.iload 4, 2) := by decide +kernel
theorem dX9_figure_98 : decode cX9_figure 98 = .ok (.iload 5, 2) := by decide +kernel
theorem dX9_figure_100 : decode cX9_figure 100 = .ok (.invokevirtual 80, 3) := by decide +kernel
theorem dX9_figure_103 : decode cX9_figure 103 = .ok (.ireturn, 1) := by decide +kernel
theorem dX9_told_0 : decode cX9_told 0 = .ok (.aload_n 0, 1) := by decide +kernel
theorem dX9_told_1 : decode cX9_told 1 = .ok (.getfield 10, 3) := by decide +kernel
theorem dX9_told_4 : decode cX9_told 4 = .ok (.getfield 49, 3) := by decide +kernel
theorem dX9_told_7 : decode cX9_told 7 = .ok (.astore_n 3, 1) := by decide +kernel
theorem dX9_told_8 : decode cX9_told 8 = .ok (.aload_n 3, 1) := by decide +kernel
theorem dX9_told_9 : decode cX9_told 9 = .ok (.iload_n 1, 1) := by decide +kernel
theorem dX9_told_10 : decode cX9_told 10 = .ok (.invokevirtual 69, 3) := by decide +kernel
theorem dX9_told_13 : decode cX9_told 13 = .ok (.ifCond .ne 6, 3) := by decide +kernel
theorem dX9_told_16 : decode cX9_told 16 = .ok (.ldc 48, 2) := by decide +kernel
theorem dX9_told_18 : decode cX9_told 18 = .ok (.ireturn, 1) := by decide +kernel
theorem dX9_told_19 : decode cX9_told 19 = .ok (.iload_n 2, 1) := by decide +kernel
theorem dX9_told_20 : decode cX9_told 20 = .ok (.tableswitch 200 0 10 #[60, 67, 74, 81, 88, 109, 132, 148, 157, 182, 194], 60) := by decide +kernel
theorem dX9_told_80 : decode cX9_told 80 = .ok (.aload_n 3, 1) := by decide +kernel
theorem dX9_told_81 : decode cX9_told 81 = .ok (.getfield 72, 3) := by decide +kernel
theorem dX9_told_84 : decode cX9_told 84 = .ok (.iload_n 1, 1) := by decide +kernel
theorem dX9_told_85 : decode cX9_told 85 = .ok (.iaload, 1) := by decide +kernel
theorem dX9_told_86 : decode cX9_told 86 = .ok (.ireturn, 1) := by decide +kernel
theorem dX9_told_87 : decode cX9_told 87 = .ok (.aload_n 3, 1) := by decide +kernel
theorem dX9_told_88 : decode cX9_told 88 = .ok (.getfield 84, 3) := by decide +kernel
theorem dX9_told_91 : decode cX9_told 91 = .ok (.iload_n 1, 1) := by decide +kernel
theorem dX9_told_92 : decode cX9_told 92 = .ok (.iaload, 1) := by decide +kernel
theorem dX9_told_93 : decode cX9_told 93 = .ok (.ireturn, 1) := by decide +kernel
theorem dX9_told_94 : decode cX9_told 94 = .ok (.aload_n 3, 1) := by decide +kernel
theorem dX9_told_95 : decode cX9_told 95 = .ok (.getfield 87, 3) := by decide +kernel
theorem dX9_told_98 : decode cX9_told 98 = .ok (.iload_n 1, 1) := by decide +kernel
theorem dX9_told_99 : decode cX9_told 99 = .ok (.iaload, 1) := by decide +kernel
theorem dX9_told_100 : decode cX9_told 100 = .ok (.ireturn, 1) := by decide +kernel
theorem dX9_told_101 : decode cX9_told 101 = .ok (.aload_n 3, 1) := by decide +kernel
theorem dX9_told_102 : decode cX9_told 102 = .ok (.getfield 90, 3) := by decide +kernel
theorem dX9_told_105 : decode cX9_told 105 = .ok (.iload_n 1, 1) := by decide +kernel
theorem dX9_told_106 : decode cX9_told 106 = .ok (.iaload, 1) := by decide +kernel
theorem dX9_told_107 : decode cX9_told 107 = .ok (.ireturn, 1) := by decide +kernel
theorem dX9_told_108 : decode cX9_told 108 = .ok (.aload_n 3, 1) := by decide +kernel
theorem dX9_told_109 : decode cX9_told 109 = .ok (.getfield 93, 3) := by decide +kernel
theorem dX9_told_112 : decode cX9_told 112 = .ok (.iload_n 1, 1) := by decide +kernel
theorem dX9_told_113 : decode cX9_told 113 = .ok (.iaload, 1) := by decide +kernel
theorem dX9_told_114 : decode cX9_told 114 = .ok (.ifCond .ge 8, 3) := by decide +kernel
theorem dX9_told_117 : decode cX9_told 117 = .ok (.ldc 96, 2) := by decide +kernel
theorem dX9_told_119 : decode cX9_told 119 = .ok (.goto 9, 3) := by decide +kernel
theorem dX9_told_122 : decode cX9_told 122 = .ok (.aload_n 3, 1) := by decide +kernel
theorem dX9_told_123 : decode cX9_told 123 = .ok (.getfield 93, 3) := by decide +kernel
theorem dX9_told_126 : decode cX9_told 126 = .ok (.iload_n 1, 1) := by decide +kernel
theorem dX9_told_127 : decode cX9_told 127 = .ok (.iaload, 1) := by decide +kernel
theorem dX9_told_128 : decode cX9_told 128 = .ok (.ireturn, 1) := by decide +kernel
theorem dX9_told_129 : decode cX9_told 129 = .ok (.aload_n 0, 1) := by decide +kernel
theorem dX9_told_130 : decode cX9_told 130 = .ok (.getfield 10, 3) := by decide +kernel
theorem dX9_told_133 : decode cX9_told 133 = .ok (.iload_n 1, 1) := by decide +kernel
theorem dX9_told_134 : decode cX9_told 134 = .ok (.aload_n 3, 1) := by decide +kernel
theorem dX9_told_135 : decode cX9_told 135 = .ok (.getfield 84, 3) := by decide +kernel
theorem dX9_told_138 : decode cX9_told 138 = .ok (.iload_n 1, 1) := by decide +kernel
theorem dX9_told_139 : decode cX9_told 139 = .ok (.iaload, 1) := by decide +kernel
theorem dX9_told_140 : decode cX9_told 140 = .ok (.invokevirtual 97, 3) := by decide +kernel
theorem dX9_told_143 : decode cX9_told 143 = .ok (.ifCond .eq 7, 3) := by decide +kernel
theorem dX9_told_146 : decode cX9_told 146 = .ok (.iconst 1, 1) := by decide +kernel
theorem dX9_told_147 : decode cX9_told 147 = .ok (.goto 4, 3) := by decide +kernel
theorem dX9_told_150 : decode cX9_told 150 = .ok (.iconst 0, 1) := by decide +kernel
theorem dX9_told_151 : decode cX9_told 151 = .ok (.ireturn, 1) := by decide +kernel
theorem dX9_told_152 : decode cX9_told 152 = .ok (.aload_n 3, 1) := by decide +kernel
theorem dX9_told_153 : decode cX9_told 153 = .ok (.getfield 84, 3) := by decide +kernel
theorem dX9_told_156 : decode cX9_told 156 = .ok (.iload_n 1, 1) := by decide +kernel
theorem dX9_told_157 : decode cX9_told 157 = .ok (.iaload, 1) := by decide +kernel
theorem dX9_told_158 : decode cX9_told 158 = .ok (.aload_n 3, 1) := by decide +kernel
theorem dX9_told_159 : decode cX9_told 159 = .ok (.getfield 90, 3) := by decide +kernel
theorem dX9_told_162 : decode cX9_told 162 = .ok (.iload_n 1, 1) := by decide +kernel
theorem dX9_told_163 : decode cX9_told 163 = .ok (.iaload, 1) := by decide +kernel
theorem dX9_told_164 : decode cX9_told 164 = .ok (.invokestatic 101, 3) := by decide +kernel
theorem dX9_told_167 : decode cX9_told 167 = .ok (.ireturn, 1) := by decide +kernel
theorem dX9_told_168 : decode cX9_told 168 = .ok (.aload_n 0, 1) := by decide +kernel
theorem dX9_told_169 : decode cX9_told 169 = .ok (.getfield 10, 3) := by decide +kernel
theorem dX9_told_172 : decode cX9_told 172 = .ok (.iload_n 1, 1) := by decide +kernel
theorem dX9_told_173 : decode cX9_told 173 = .ok (.invokevirtual 105, 3) := by decide +kernel
theorem dX9_told_176 : decode cX9_told 176 = .ok (.ireturn, 1) := by decide +kernel
theorem dX9_told_177 : decode cX9_told 177 = .ok (.aload_n 0, 1) := by decide +kernel
theorem dX9_told_178 : decode cX9_told 178 = .ok (.getfield 10, 3) := by decide +kernel
theorem dX9_told_181 : decode cX9_told 181 = .ok (.iload_n 1, 1) := by decide +kernel
theorem dX9_told_182 : decode cX9_told 182 = .ok (.invokevirtual 108, 3) := by decide +kernel
theorem dX9_told_185 : decode cX9_told 185 = .ok (.ifCond .eq 14, 3) := by decide +kernel
theorem dX9_told_188 : decode cX9_told 188 = .ok (.aload_n 0, 1) := by decide +kernel
theorem dX9_told_189 : decode cX9_told 189 = .ok (.getfield 10, 3) := by decide +kernel
theorem dX9_told_192 : decode cX9_told 192 = .ok (.iload_n 1, 1) := by decide +kernel
theorem dX9_told_193 : decode cX9_told 193 = .ok (.invokevirtual 111, 3) := by decide +kernel
theorem dX9_told_196 : decode cX9_told 196 = .ok (.goto 5, 3) := by decide +kernel
theorem dX9_told_199 : decode cX9_told 199 = .ok (.ldc 96, 2) := by decide +kernel
theorem dX9_told_201 : decode cX9_told 201 = .ok (.ireturn, 1) := by decide +kernel
theorem dX9_told_202 : decode cX9_told 202 = .ok (.aload_n 0, 1) := by decide +kernel
theorem dX9_told_203 : decode cX9_told 203 = .ok (.getfield 10, 3) := by decide +kernel
theorem dX9_told_206 : decode cX9_told 206 = .ok (.getfield 114, 3) := by decide +kernel
theorem dX9_told_209 : decode cX9_told 209 = .ok (.iload_n 1, 1) := by decide +kernel
theorem dX9_told_210 : decode cX9_told 210 = .ok (.invokevirtual 118, 3) := by decide +kernel
theorem dX9_told_213 : decode cX9_told 213 = .ok (.ireturn, 1) := by decide +kernel
theorem dX9_told_214 : decode cX9_told 214 = .ok (.aload_n 3, 1) := by decide +kernel
theorem dX9_told_215 : decode cX9_told 215 = .ok (.iload_n 1, 1) := by decide +kernel
theorem dX9_told_216 : decode cX9_told 216 = .ok (.invokevirtual 123, 3) := by decide +kernel
theorem dX9_told_219 : decode cX9_told 219 = .ok (.ireturn, 1) := by decide +kernel
theorem dX9_told_220 : decode cX9_told 220 = .ok (.ldc 48, 2) := by decide +kernel
theorem dX9_told_222 : decode cX9_told 222 = .ok (.ireturn, 1) := by decide +kernel
theorem dX9_as_0 : decode cX9_as 0 = .ok (.aload_n 0, 1) := by decide +kernel
theorem dX9_as_1 : decode cX9_as 1 = .ok (.getfield 10, 3) := by decide +kernel
theorem dX9_as_4 : decode cX9_as 4 = .ok (.getfield 49, 3) := by decide +kernel
theorem dX9_as_7 : decode cX9_as 7 = .ok (.iload_n 1, 1) := by decide +kernel
theorem dX9_as_8 : decode cX9_as 8 = .ok (.invokevirtual 69, 3) := by decide +kernel
theorem dX9_as_11 : decode cX9_as 11 = .ok (.ifCond .eq 10, 3) := by decide +kernel
theorem dX9_as_14 : decode cX9_as 14 = .ok (.iload_n 2, 1) := by decide +kernel
theorem dX9_as_15 : decode cX9_as 15 = .ok (.invokestatic 63, 3) := by decide +kernel
theorem dX9_as_18 : decode cX9_as 18 = .ok (.ifCond .ne 6, 3) := by decide +kernel
theorem dX9_as_21 : decode cX9_as 21 = .ok (.ldc 48, 2) := by decide +kernel
theorem dX9_as_23 : decode cX9_as 23 = .ok (.ireturn, 1) := by decide +kernel
theorem dX9_as_24 : decode cX9_as 24 = .ok (.aload_n 0, 1) := by decide +kernel
theorem dX9_as_25 : decode cX9_as 25 = .ok (.getfield 10, 3) := by decide +kernel
theorem dX9_as_28 : decode cX9_as 28 = .ok (.getfield 49, 3) := by decide +kernel
theorem dX9_as_31 : decode cX9_as 31 = .ok (.getfield 84, 3) := by decide +kernel
theorem dX9_as_34 : decode cX9_as 34 = .ok (.iload_n 1, 1) := by decide +kernel
theorem dX9_as_35 : decode cX9_as 35 = .ok (.iaload, 1) := by decide +kernel
theorem dX9_as_36 : decode cX9_as 36 = .ok (.iload_n 2, 1) := by decide +kernel
theorem dX9_as_37 : decode cX9_as 37 = .ok (.invokestatic 126, 3) := by decide +kernel
theorem dX9_as_40 : decode cX9_as 40 = .ok (.ifCond .eq 18, 3) := by decide +kernel
theorem dX9_as_43 : decode cX9_as 43 = .ok (.aload_n 0, 1) := by decide +kernel
theorem dX9_as_44 : decode cX9_as 44 = .ok (.getfield 10, 3) := by decide +kernel
theorem dX9_as_47 : decode cX9_as 47 = .ok (.getfield 49, 3) := by decide +kernel
theorem dX9_as_50 : decode cX9_as 50 = .ok (.getfield 87, 3) := by decide +kernel
theorem dX9_as_53 : decode cX9_as 53 = .ok (.iload_n 1, 1) := by decide +kernel
theorem dX9_as_54 : decode cX9_as 54 = .ok (.iaload, 1) := by decide +kernel
theorem dX9_as_55 : decode cX9_as 55 = .ok (.goto 5, 3) := by decide +kernel
theorem dX9_as_58 : decode cX9_as 58 = .ok (.ldc 129, 2) := by decide +kernel
theorem dX9_as_60 : decode cX9_as 60 = .ok (.ireturn, 1) := by decide +kernel
theorem dX9_turns_0 : decode cX9_turns 0 = .ok (.aload_n 0, 1) := by decide +kernel
theorem dX9_turns_1 : decode cX9_turns 1 = .ok (.getfield 10, 3) := by decide +kernel
theorem dX9_turns_4 : decode cX9_turns 4 = .ok (.getfield 49, 3) := by decide +kernel
theorem dX9_turns_7 : decode cX9_turns 7 = .ok (.iload_n 1, 1) := by decide +kernel
theorem dX9_turns_8 : decode cX9_turns 8 = .ok (.invokevirtual 69, 3) := by decide +kernel
theorem dX9_turns_11 : decode cX9_turns 11 = .ok (.ifCond .eq 10, 3) := by decide +kernel
theorem dX9_turns_14 : decode cX9_turns 14 = .ok (.iload_n 2, 1) := by decide +kernel
theorem dX9_turns_15 : decode cX9_turns 15 = .ok (.invokestatic 63, 3) := by decide +kernel
theorem dX9_turns_18 : decode cX9_turns 18 = .ok (.ifCond .ne 6, 3) := by decide +kernel
theorem dX9_turns_21 : decode cX9_turns 21 = .ok (.ldc 48, 2) := by decide +kernel
theorem dX9_turns_23 : decode cX9_turns 23 = .ok (.ireturn, 1) := by decide +kernel
theorem dX9_turns_24 : decode cX9_turns 24 = .ok (.aload_n 0, 1) := by decide +kernel
theorem dX9_turns_25 : decode cX9_turns 25 = .ok (.getfield 10, 3) := by decide +kernel
theorem dX9_turns_28 : decode cX9_turns 28 = .ok (.getfield 49, 3) := by decide +kernel
theorem dX9_turns_31 : decode cX9_turns 31 = .ok (.getfield 84, 3) := by decide +kernel
theorem dX9_turns_34 : decode cX9_turns 34 = .ok (.iload_n 1, 1) := by decide +kernel
theorem dX9_turns_35 : decode cX9_turns 35 = .ok (.iaload, 1) := by decide +kernel
theorem dX9_turns_36 : decode cX9_turns 36 = .ok (.istore_n 3, 1) := by decide +kernel
theorem dX9_turns_37 : decode cX9_turns 37 = .ok (.aload_n 0, 1) := by decide +kernel
theorem dX9_turns_38 : decode cX9_turns 38 = .ok (.getfield 10, 3) := by decide +kernel
theorem dX9_turns_41 : decode cX9_turns 41 = .ok (.getfield 49, 3) := by decide +kernel
theorem dX9_turns_44 : decode cX9_turns 44 = .ok (.getfield 84, 3) := by decide +kernel
theorem dX9_turns_47 : decode cX9_turns 47 = .ok (.iload_n 1, 1) := by decide +kernel
theorem dX9_turns_48 : decode cX9_turns 48 = .ok (.iload_n 2, 1) := by decide +kernel
theorem dX9_turns_49 : decode cX9_turns 49 = .ok (.iastore, 1) := by decide +kernel
theorem dX9_turns_50 : decode cX9_turns 50 = .ok (.iload_n 3, 1) := by decide +kernel
theorem dX9_turns_51 : decode cX9_turns 51 = .ok (.ireturn, 1) := by decide +kernel
theorem dX9_base_0 : decode cX9_base 0 = .ok (.iload_n 1, 1) := by decide +kernel
theorem dX9_base_1 : decode cX9_base 1 = .ok (.iconst 0, 1) := by decide +kernel
theorem dX9_base_2 : decode cX9_base 2 = .ok (.sipush 9999, 3) := by decide +kernel
theorem dX9_base_5 : decode cX9_base 5 = .ok (.invokestatic 44, 3) := by decide +kernel
theorem dX9_base_8 : decode cX9_base 8 = .ok (.ifCond .ne 6, 3) := by decide +kernel
theorem dX9_base_11 : decode cX9_base 11 = .ok (.ldc 48, 2) := by decide +kernel
theorem dX9_base_13 : decode cX9_base 13 = .ok (.ireturn, 1) := by decide +kernel
theorem dX9_base_14 : decode cX9_base 14 = .ok (.aload_n 0, 1) := by decide +kernel
theorem dX9_base_15 : decode cX9_base 15 = .ok (.getfield 10, 3) := by decide +kernel
theorem dX9_base_18 : decode cX9_base 18 = .ok (.getfield 130, 3) := by decide +kernel
theorem dX9_base_21 : decode cX9_base 21 = .ok (.istore_n 2, 1) := by decide +kernel
theorem dX9_base_22 : decode cX9_base 22 = .ok (.aload_n 0, 1) := by decide +kernel
theorem dX9_base_23 : decode cX9_base 23 = .ok (.getfield 10, 3) := by decide +kernel
theorem dX9_base_26 : decode cX9_base 26 = .ok (.iload_n 1, 1) := by decide +kernel
theorem dX9_base_27 : decode cX9_base 27 = .ok (.putfield 130, 3) := by decide +kernel
theorem dX9_base_30 : decode cX9_base 30 = .ok (.iload_n 2, 1) := by decide +kernel
theorem dX9_base_31 : decode cX9_base 31 = .ok (.ireturn, 1) := by decide +kernel
theorem dX9_feed_0 : decode cX9_feed 0 = .ok (.aload_n 0, 1) := by decide +kernel
theorem dX9_feed_1 : decode cX9_feed 1 = .ok (.getfield 22, 3) := by decide +kernel
theorem dX9_feed_4 : decode cX9_feed 4 = .ok (.getfield 133, 3) := by decide +kernel
theorem dX9_feed_7 : decode cX9_feed 7 = .ok (.bipush 12, 2) := by decide +kernel
theorem dX9_feed_9 : decode cX9_feed 9 = .ok (.iadd, 1) := by decide +kernel
theorem dX9_feed_10 : decode cX9_feed 10 = .ok (.bipush 96, 2) := by decide +kernel
theorem dX9_feed_12 : decode cX9_feed 12 = .ok (.if_icmp .le 6, 3) := by decide +kernel
theorem dX9_feed_15 : decode cX9_feed 15 = .ok (.ldc 79, 2) := by decide +kernel
theorem dX9_feed_17 : decode cX9_feed 17 = .ok (.ireturn, 1) := by decide +kernel
theorem dX9_feed_18 : decode cX9_feed 18 = .ok (.aload_n 0, 1) := by decide +kernel
theorem dX9_feed_19 : decode cX9_feed 19 = .ok (.getfield 22, 3) := by decide +kernel
theorem dX9_feed_22 : decode cX9_feed 22 = .ok (.iload_n 1, 1) := by decide +kernel
theorem dX9_feed_23 : decode cX9_feed 23 = .ok (.invokevirtual 134, 3) := by decide +kernel
theorem dX9_feed_26 : decode cX9_feed 26 = .ok (.aload_n 0, 1) := by decide +kernel
theorem dX9_feed_27 : decode cX9_feed 27 = .ok (.getfield 22, 3) := by decide +kernel
theorem dX9_feed_30 : decode cX9_feed 30 = .ok (.iload_n 2, 1) := by decide +kernel
theorem dX9_feed_31 : decode cX9_feed 31 = .ok (.invokevirtual 134, 3) := by decide +kernel
theorem dX9_feed_34 : decode cX9_feed 34 = .ok (.aload_n 0, 1) := by decide +kernel
theorem dX9_feed_35 : decode cX9_feed 35 = .ok (.getfield 22, 3) := by decide +kernel
theorem dX9_feed_38 : decode cX9_feed 38 = .ok (.iload_n 3, 1) := by decide +kernel
theorem dX9_feed_39 : decode cX9_feed 39 = .ok (.invokevirtual 134, 3) := by decide +kernel
theorem dX9_feed_42 : decode cX9_feed 42 = .ok (.aload_n 0, 1) := by decide +kernel
theorem dX9_feed_43 : decode cX9_feed 43 = .ok (.getfield 22, 3) := by decide +kernel
theorem dX9_feed_46 : decode cX9_feed 46 = .ok (.getfield 133, 3) := by decide +kernel
theorem dX9_feed_49 : decode cX9_feed 49 = .ok (.ireturn, 1) := by decide +kernel
theorem dX9_trim_0 : decode cX9_trim 0 = .ok (.iload_n 1, 1) := by decide +kernel
theorem dX9_trim_1 : decode cX9_trim 1 = .ok (.iconst 0, 1) := by decide +kernel
theorem dX9_trim_2 : decode cX9_trim 2 = .ok (.aload_n 0, 1) := by decide +kernel
theorem dX9_trim_3 : decode cX9_trim 3 = .ok (.getfield 22, 3) := by decide +kernel
theorem dX9_trim_6 : decode cX9_trim 6 = .ok (.getfield 133, 3) := by decide +kernel
theorem dX9_trim_9 : decode cX9_trim 9 = .ok (.invokestatic 44, 3) := by decide +kernel
theorem dX9_trim_12 : decode cX9_trim 12 = .ok (.ifCond .ne 6, 3) := by decide +kernel
theorem dX9_trim_15 : decode cX9_trim 15 = .ok (.ldc 48, 2) := by decide +kernel
theorem dX9_trim_17 : decode cX9_trim 17 = .ok (.ireturn, 1) := by decide +kernel
theorem dX9_trim_18 : decode cX9_trim 18 = .ok (.aload_n 0, 1) := by decide +kernel
theorem dX9_trim_19 : decode cX9_trim 19 = .ok (.getfield 22, 3) := by decide +kernel
theorem dX9_trim_22 : decode cX9_trim 22 = .ok (.iload_n 1, 1) := by decide +kernel
theorem dX9_trim_23 : decode cX9_trim 23 = .ok (.putfield 133, 3) := by decide +kernel
theorem dX9_trim_26 : decode cX9_trim 26 = .ok (.iload_n 1, 1) := by decide +kernel
theorem dX9_trim_27 : decode cX9_trim 27 = .ok (.ireturn, 1) := by decide +kernel
theorem dX9_text_0 : decode cX9_text 0 = .ok (.aload_n 0, 1) := by decide +kernel
theorem dX9_text_1 : decode cX9_text 1 = .ok (.getfield 22, 3) := by decide +kernel
theorem dX9_text_4 : decode cX9_text 4 = .ok (.invokevirtual 137, 3) := by decide +kernel
theorem dX9_text_7 : decode cX9_text 7 = .ok (.aload_n 0, 1) := by decide +kernel
theorem dX9_text_8 : decode cX9_text 8 = .ok (.getfield 22, 3) := by decide +kernel
theorem dX9_text_11 : decode cX9_text 11 = .ok (.iconst 0, 1) := by decide +kernel
theorem dX9_text_12 : decode cX9_text 12 = .ok (.putfield 133, 3) := by decide +kernel
theorem dX9_text_15 : decode cX9_text 15 = .ok (.aload_n 0, 1) := by decide +kernel
theorem dX9_text_16 : decode cX9_text 16 = .ok (.getfield 22, 3) := by decide +kernel
theorem dX9_text_19 : decode cX9_text 19 = .ok (.getfield 140, 3) := by decide +kernel
theorem dX9_text_22 : decode cX9_text 22 = .ok (.ifCond .lt 14, 3) := by decide +kernel
theorem dX9_text_25 : decode cX9_text 25 = .ok (.bipush (-100), 2) := by decide +kernel
theorem dX9_text_27 : decode cX9_text 27 = .ok (.aload_n 0, 1) := by decide +kernel
theorem dX9_text_28 : decode cX9_text 28 = .ok (.getfield 22, 3) := by decide +kernel
theorem dX9_text_31 : decode cX9_text 31 = .ok (.getfield 140, 3) := by decide +kernel
theorem dX9_text_34 : decode cX9_text 34 = .ok (.isub, 1) := by decide +kernel
theorem dX9_text_35 : decode cX9_text 35 = .ok (.ireturn, 1) := by decide +kernel
theorem dX9_text_36 : decode cX9_text 36 = .ok (.aload_n 0, 1) := by decide +kernel
theorem dX9_text_37 : decode cX9_text 37 = .ok (.getfield 10, 3) := by decide +kernel
theorem dX9_text_40 : decode cX9_text 40 = .ok (.getfield 143, 3) := by decide +kernel
theorem dX9_text_43 : decode cX9_text 43 = .ok (.aload_n 0, 1) := by decide +kernel
theorem dX9_text_44 : decode cX9_text 44 = .ok (.getfield 22, 3) := by decide +kernel
theorem dX9_text_47 : decode cX9_text 47 = .ok (.invokevirtual 147, 3) := by decide +kernel
theorem dX9_text_50 : decode cX9_text 50 = .ok (.ireturn, 1) := by decide +kernel
theorem dX9_of_0 : decode cX9_of 0 = .ok (.aload_n 0, 1) := by decide +kernel
theorem dX9_of_1 : decode cX9_of 1 = .ok (.getfield 10, 3) := by decide +kernel
theorem dX9_of_4 : decode cX9_of 4 = .ok (.getfield 143, 3) := by decide +kernel
theorem dX9_of_7 : decode cX9_of 7 = .ok (.astore_n 3, 1) := by decide +kernel
theorem dX9_of_8 : decode cX9_of 8 = .ok (.iload_n 1, 1) := by decide +kernel
theorem dX9_of_9 : decode cX9_of 9 = .ok (.iconst 0, 1) := by decide +kernel
theorem dX9_of_10 : decode cX9_of 10 = .ok (.aload_n 3, 1) := by decide +kernel
theorem dX9_of_11 : decode cX9_of 11 = .ok (.getfield 152, 3) := by decide +kernel
theorem dX9_of_14 : decode cX9_of 14 = .ok (.iconst 1, 1) := by decide +kernel
theorem dX9_of_15 : decode cX9_of 15 = .ok (.isub, 1) := by decide +kernel
theorem dX9_of_16 : decode cX9_of 16 = .ok (.invokestatic 44, 3) := by decide +kernel
theorem dX9_of_19 : decode cX9_of 19 = .ok (.ifCond .ne 6, 3) := by decide +kernel
theorem dX9_of_22 : decode cX9_of 22 = .ok (.ldc 48, 2) := by decide +kernel
theorem dX9_of_24 : decode cX9_of 24 = .ok (.ireturn, 1) := by decide +kernel
theorem dX9_of_25 : decode cX9_of 25 = .ok (.iload_n 2, 1) := by decide +kernel
theorem dX9_of_26 : decode cX9_of 26 = .ok (.tableswitch 47 0 2 #[26, 33, 40], 26) := by decide +kernel
theorem dX9_of_52 : decode cX9_of 52 = .ok (.aload_n 3, 1) := by decide +kernel
theorem dX9_of_53 : decode cX9_of 53 = .ok (.getfield 153, 3) := by decide +kernel
theorem dX9_of_56 : decode cX9_of 56 = .ok (.iload_n 1, 1) := by decide +kernel
theorem dX9_of_57 : decode cX9_of 57 = .ok (.iaload, 1) := by decide +kernel
theorem dX9_of_58 : decode cX9_of 58 = .ok (.ireturn, 1) := by decide +kernel
theorem dX9_of_59 : decode cX9_of 59 = .ok (.aload_n 3, 1) := by decide +kernel
theorem dX9_of_60 : decode cX9_of 60 = .ok (.getfield 156, 3) := by decide +kernel
theorem dX9_of_63 : decode cX9_of 63 = .ok (.iload_n 1, 1) := by decide +kernel
theorem dX9_of_64 : decode cX9_of 64 = .ok (.iaload, 1) := by decide +kernel
theorem dX9_of_65 : decode cX9_of 65 = .ok (.ireturn, 1) := by decide +kernel
theorem dX9_of_66 : decode cX9_of 66 = .ok (.aload_n 3, 1) := by decide +kernel
theorem dX9_of_67 : decode cX9_of 67 = .ok (.getfield 157, 3) := by decide +kernel
theorem dX9_of_70 : decode cX9_of 70 = .ok (.iload_n 1, 1) := by decide +kernel
theorem dX9_of_71 : decode cX9_of 71 = .ok (.iaload, 1) := by decide +kernel
theorem dX9_of_72 : decode cX9_of 72 = .ok (.ireturn, 1) := by decide +kernel
theorem dX9_of_73 : decode cX9_of 73 = .ok (.ldc 48, 2) := by decide +kernel
theorem dX9_of_75 : decode cX9_of 75 = .ok (.ireturn, 1) := by decide +kernel
theorem dX9_why_0 : decode cX9_why 0 = .ok (.iload_n 1, 1) := by decide +kernel
theorem dX9_why_1 : decode cX9_why 1 = .ok (.iconst 0, 1) := by decide +kernel
theorem dX9_why_2 : decode cX9_why 2 = .ok (.iconst 2, 1) := by decide +kernel
theorem dX9_why_3 : decode cX9_why 3 = .ok (.invokestatic 44, 3) := by decide +kernel
theorem dX9_why_6 : decode cX9_why 6 = .ok (.ifCond .ne 6, 3) := by decide +kernel
theorem dX9_why_9 : decode cX9_why 9 = .ok (.ldc 48, 2) := by decide +kernel
theorem dX9_why_11 : decode cX9_why 11 = .ok (.ireturn, 1) := by decide +kernel
theorem dX9_why_12 : decode cX9_why 12 = .ok (.iload_n 1, 1) := by decide +kernel
theorem dX9_why_13 : decode cX9_why 13 = .ok (.ifCond .ne 16, 3) := by decide +kernel
theorem dX9_why_16 : decode cX9_why 16 = .ok (.iload_n 2, 1) := by decide +kernel
theorem dX9_why_17 : decode cX9_why 17 = .ok (.iconst 0, 1) := by decide +kernel
theorem dX9_why_18 : decode cX9_why 18 = .ok (.bipush 11, 2) := by decide +kernel
theorem dX9_why_20 : decode cX9_why 20 = .ok (.invokestatic 44, 3) := by decide +kernel
theorem dX9_why_23 : decode cX9_why 23 = .ok (.ifCond .ne 6, 3) := by decide +kernel
theorem dX9_why_26 : decode cX9_why 26 = .ok (.ldc 48, 2) := by decide +kernel
theorem dX9_why_28 : decode cX9_why 28 = .ok (.ireturn, 1) := by decide +kernel
theorem dX9_why_29 : decode cX9_why 29 = .ok (.aload_n 0, 1) := by decide +kernel
theorem dX9_why_30 : decode cX9_why 30 = .ok (.getfield 10, 3) := by decide +kernel
theorem dX9_why_33 : decode cX9_why 33 = .ok (.getfield 143, 3) := by decide +kernel
theorem dX9_why_36 : decode cX9_why 36 = .ok (.iload_n 1, 1) := by decide +kernel
theorem dX9_why_37 : decode cX9_why 37 = .ok (.iload_n 2, 1) := by decide +kernel
theorem dX9_why_38 : decode cX9_why 38 = .ok (.invokevirtual 160, 3) := by decide +kernel
theorem dX9_why_41 : decode cX9_why 41 = .ok (.ireturn, 1) := by decide +kernel
theorem dX9_line_0 : decode cX9_line 0 = .ok (.aload_n 0, 1) := by decide +kernel
theorem dX9_line_1 : decode cX9_line 1 = .ok (.getfield 10, 3) := by decide +kernel
theorem dX9_line_4 : decode cX9_line 4 = .ok (.getfield 49, 3) := by decide +kernel
theorem dX9_line_7 : decode cX9_line 7 = .ok (.astore_n 3, 1) := by decide +kernel
theorem dX9_line_8 : decode cX9_line 8 = .ok (.aload_n 0, 1) := by decide +kernel
theorem dX9_line_9 : decode cX9_line 9 = .ok (.getfield 10, 3) := by decide +kernel
theorem dX9_line_12 : decode cX9_line 12 = .ok (.getfield 114, 3) := by decide +kernel
theorem dX9_line_15 : decode cX9_line 15 = .ok (.astore 4, 2) := by decide +kernel
theorem dX9_line_17 : decode cX9_line 17 = .ok (.iload_n 1, 1) := by decide +kernel
theorem dX9_line_18 : decode cX9_line 18 = .ok (.iconst 0, 1) := by decide +kernel
theorem dX9_line_19 : decode cX9_line 19 = .ok (.iconst 5, 1) := by decide +kernel
theorem dX9_line_20 : decode cX9_line 20 = .ok (.invokestatic 44, 3) := by decide +kernel
theorem dX9_line_23 : decode cX9_line 23 = .ok (.ifCond .eq 11, 3) := by decide +kernel
theorem dX9_line_26 : decode cX9_line 26 = .ok (.aload_n 3, 1) := by decide +kernel
theorem dX9_line_27 : decode cX9_line 27 = .ok (.iload_n 2, 1) := by decide +kernel
theorem dX9_line_28 : decode cX9_line 28 = .ok (.invokevirtual 69, 3) := by decide +kernel
theorem dX9_line_31 : decode cX9_line 31 = .ok (.ifCond .ne 6, 3) := by decide +kernel
theorem dX9_line_34 : decode cX9_line 34 = .ok (.ldc 48, 2) := by decide +kernel
theorem dX9_line_36 : decode cX9_line 36 = .ok (.ireturn, 1) := by decide +kernel
theorem dX9_line_37 : decode cX9_line 37 = .ok (.aload 4, 2) := by decide +kernel
theorem dX9_line_39 : decode cX9_line 39 = .ok (.iload_n 2, 1) := by decide +kernel
theorem dX9_line_40 : decode cX9_line 40 = .ok (.invokevirtual 118, 3) := by decide +kernel
theorem dX9_line_43 : decode cX9_line 43 = .ok (.ldc 96, 2) := by decide +kernel
theorem dX9_line_45 : decode cX9_line 45 = .ok (.if_icmp .eq 6, 3) := by decide +kernel
theorem dX9_line_48 : decode cX9_line 48 = .ok (.ldc 163, 2) := by decide +kernel
theorem dX9_line_50 : decode cX9_line 50 = .ok (.ireturn, 1) := by decide +kernel
theorem dX9_line_51 : decode cX9_line 51 = .ok (.aload 4, 2) := by decide +kernel
theorem dX9_line_53 : decode cX9_line 53 = .ok (.iload_n 1, 1) := by decide +kernel
theorem dX9_line_54 : decode cX9_line 54 = .ok (.invokevirtual 164, 3) := by decide +kernel
theorem dX9_line_57 : decode cX9_line 57 = .ok (.istore 5, 2) := by decide +kernel
theorem dX9_line_59 : decode cX9_line 59 = .ok (.aload_n 3, 1) := by decide +kernel
theorem dX9_line_60 : decode cX9_line 60 = .ok (.iload 5, 2) := by decide +kernel
theorem dX9_line_62 : decode cX9_line 62 = .ok (.invokevirtual 69, 3) := by decide +kernel
theorem dX9_line_65 : decode cX9_line 65 = .ok (.ifCond .eq 22, 3) := by decide +kernel
theorem dX9_line_68 : decode cX9_line 68 = .ok (.aload_n 3, 1) := by decide +kernel
theorem dX9_line_69 : decode cX9_line 69 = .ok (.getfield 72, 3) := by decide +kernel
theorem dX9_line_72 : decode cX9_line 72 = .ok (.iload_n 2, 1) := by decide +kernel
theorem dX9_line_73 : decode cX9_line 73 = .ok (.iaload, 1) := by decide +kernel
theorem dX9_line_74 : decode cX9_line 74 = .ok (.aload_n 3, 1) := by decide +kernel
theorem dX9_line_75 : decode cX9_line 75 = .ok (.getfield 72, 3) := by decide +kernel
theorem dX9_line_78 : decode cX9_line 78 = .ok (.iload 5, 2) := by decide +kernel
theorem dX9_line_80 : decode cX9_line 80 = .ok (.iaload, 1) := by decide +kernel
theorem dX9_line_81 : decode cX9_line 81 = .ok (.if_icmp .gt 6, 3) := by decide +kernel
theorem dX9_line_84 : decode cX9_line 84 = .ok (.ldc 163, 2) := by decide +kernel
theorem dX9_line_86 : decode cX9_line 86 = .ok (.ireturn, 1) := by decide +kernel
theorem dX9_line_87 : decode cX9_line 87 = .ok (.aload 4, 2) := by decide +kernel
theorem dX9_line_89 : decode cX9_line 89 = .ok (.iload_n 1, 1) := by decide +kernel
theorem dX9_line_90 : decode cX9_line 90 = .ok (.iload_n 2, 1) := by decide +kernel
theorem dX9_line_91 : decode cX9_line 91 = .ok (.invokevirtual 167, 3) := by decide +kernel
theorem dX9_line_94 : decode cX9_line 94 = .ok (.ireturn, 1) := by decide +kernel
theorem dX9_run_0 : decode cX9_run 0 = .ok (.iload_n 1, 1) := by decide +kernel
theorem dX9_run_1 : decode cX9_run 1 = .ok (.iconst 0, 1) := by decide +kernel
theorem dX9_run_2 : decode cX9_run 2 = .ok (.iconst 5, 1) := by decide +kernel
theorem dX9_run_3 : decode cX9_run 3 = .ok (.invokestatic 44, 3) := by decide +kernel
theorem dX9_run_6 : decode cX9_run 6 = .ok (.ifCond .eq 19, 3) := by decide +kernel
theorem dX9_run_9 : decode cX9_run 9 = .ok (.iload_n 2, 1) := by decide +kernel
theorem dX9_run_10 : decode cX9_run 10 = .ok (.invokestatic 170, 3) := by decide +kernel
theorem dX9_run_13 : decode cX9_run 13 = .ok (.ifCond .eq 12, 3) := by decide +kernel
theorem dX9_run_16 : decode cX9_run 16 = .ok (.iload_n 3, 1) := by decide +kernel
theorem dX9_run_17 : decode cX9_run 17 = .ok (.iconst 0, 1) := by decide +kernel
theorem dX9_run_18 : decode cX9_run 18 = .ok (.iconst 2, 1) := by decide +kernel
theorem dX9_run_19 : decode cX9_run 19 = .ok (.invokestatic 44, 3) := by decide +kernel
theorem dX9_run_22 : decode cX9_run 22 = .ok (.ifCond .ne 6, 3) := by decide +kernel
theorem dX9_run_25 : decode cX9_run 25 = .ok (.ldc 48, 2) := by decide +kernel
theorem dX9_run_27 : decode cX9_run 27 = .ok (.ireturn, 1) := by decide +kernel
theorem dX9_run_28 : decode cX9_run 28 = .ok (.aload_n 0, 1) := by decide +kernel
theorem dX9_run_29 : decode cX9_run 29 = .ok (.getfield 10, 3) := by decide +kernel
theorem dX9_run_32 : decode cX9_run 32 = .ok (.iload_n 1, 1) := by decide +kernel
theorem dX9_run_33 : decode cX9_run 33 = .ok (.invokevirtual 173, 3) := by decide +kernel
theorem dX9_run_36 : decode cX9_run 36 = .ok (.istore 4, 2) := by decide +kernel
theorem dX9_run_38 : decode cX9_run 38 = .ok (.aload_n 0, 1) := by decide +kernel
theorem dX9_run_39 : decode cX9_run 39 = .ok (.getfield 10, 3) := by decide +kernel
theorem dX9_run_42 : decode cX9_run 42 = .ok (.getfield 176, 3) := by decide +kernel
theorem dX9_run_45 : decode cX9_run 45 = .ok (.iload 4, 2) := by decide +kernel
theorem dX9_run_47 : decode cX9_run 47 = .ok (.iload_n 2, 1) := by decide +kernel
theorem dX9_run_48 : decode cX9_run 48 = .ok (.invokestatic 179, 3) := by decide +kernel
theorem dX9_run_51 : decode cX9_run 51 = .ok (.istore 5, 2) := by decide +kernel
theorem dX9_run_53 : decode cX9_run 53 = .ok (.iload_n 3, 1) := by decide +kernel
theorem dX9_run_54 : decode cX9_run 54 = .ok (.ifCond .ne 6, 3) := by decide +kernel
theorem dX9_run_57 : decode cX9_run 57 = .ok (.iload 5, 2) := by decide +kernel
theorem dX9_run_59 : decode cX9_run 59 = .ok (.ireturn, 1) := by decide +kernel
theorem dX9_run_60 : decode cX9_run 60 = .ok (.aload_n 0, 1) := by decide +kernel
theorem dX9_run_61 : decode cX9_run 61 = .ok (.getfield 10, 3) := by decide +kernel
theorem dX9_run_64 : decode cX9_run 64 = .ok (.getfield 176, 3) := by decide +kernel
theorem dX9_run_67 : decode cX9_run 67 = .ok (.iload 4, 2) := by decide +kernel
theorem dX9_run_69 : decode cX9_run 69 = .ok (.iload_n 2, 1) := by decide +kernel
theorem dX9_run_70 : decode cX9_run 70 = .ok (.iload 5, 2) := by decide +kernel
theorem dX9_run_72 : decode cX9_run 72 = .ok (.invokestatic 183, 3) := by decide +kernel
theorem dX9_run_75 : decode cX9_run 75 = .ok (.iload 5, 2) := by decide +kernel
theorem dX9_run_77 : decode cX9_run 77 = .ok (.isub, 1) := by decide +kernel
theorem dX9_run_78 : decode cX9_run 78 = .ok (.iconst 1, 1) := by decide +kernel
theorem dX9_run_79 : decode cX9_run 79 = .ok (.iadd, 1) := by decide +kernel
theorem dX9_run_80 : decode cX9_run 80 = .ok (.istore 6, 2) := by decide +kernel
theorem dX9_run_82 : decode cX9_run 82 = .ok (.iload_n 3, 1) := by decide +kernel
theorem dX9_run_83 : decode cX9_run 83 = .ok (.iconst 1, 1) := by decide +kernel
theorem dX9_run_84 : decode cX9_run 84 = .ok (.if_icmp .ne 28, 3) := by decide +kernel
theorem dX9_run_87 : decode cX9_run 87 = .ok (.iload 5, 2) := by decide +kernel
theorem dX9_run_89 : decode cX9_run 89 = .ok (.iconst 1, 1) := by decide +kernel
theorem dX9_run_90 : decode cX9_run 90 = .ok (.if_icmp .ge 8, 3) := by decide +kernel
theorem dX9_run_93 : decode cX9_run 93 = .ok (.ldc 96, 2) := by decide +kernel
theorem dX9_run_95 : decode cX9_run 95 = .ok (.goto 16, 3) := by decide +kernel
theorem dX9_run_98 : decode cX9_run 98 = .ok (.aload_n 0, 1) := by decide +kernel
theorem dX9_run_99 : decode cX9_run 99 = .ok (.getfield 10, 3) := by decide +kernel
theorem dX9_run_102 : decode cX9_run 102 = .ok (.getfield 114, 3) := by decide +kernel
theorem dX9_run_105 : decode cX9_run 105 = .ok (.iload_n 1, 1) := by decide +kernel
theorem dX9_run_106 : decode cX9_run 106 = .ok (.iload 6, 2) := by decide +kernel
theorem dX9_run_108 : decode cX9_run 108 = .ok (.invokevirtual 187, 3) := by decide +kernel
theorem dX9_run_111 : decode cX9_run 111 = .ok (.ireturn, 1) := by decide +kernel
theorem dX9_run_112 : decode cX9_run 112 = .ok (.aload_n 0, 1) := by decide +kernel
theorem dX9_run_113 : decode cX9_run 113 = .ok (.getfield 10, 3) := by decide +kernel
theorem dX9_run_116 : decode cX9_run 116 = .ok (.iload_n 1, 1) := by decide +kernel
theorem dX9_run_117 : decode cX9_run 117 = .ok (.iload 6, 2) := by decide +kernel
theorem dX9_run_119 : decode cX9_run 119 = .ok (.iload 5, 2) := by decide +kernel
theorem dX9_run_121 : decode cX9_run 121 = .ok (.invokevirtual 190, 3) := by decide +kernel
theorem dX9_run_124 : decode cX9_run 124 = .ok (.ireturn, 1) := by decide +kernel
theorem dX9_soon_0 : decode cX9_soon 0 = .ok (.iload_n 1, 1) := by decide +kernel
theorem dX9_soon_1 : decode cX9_soon 1 = .ok (.iconst 2, 1) := by decide +kernel
theorem dX9_soon_2 : decode cX9_soon 2 = .ok (.bipush 12, 2) := by decide +kernel
theorem dX9_soon_4 : decode cX9_soon 4 = .ok (.invokestatic 44, 3) := by decide +kernel
theorem dX9_soon_7 : decode cX9_soon 7 = .ok (.ifCond .eq 10, 3) := by decide +kernel
theorem dX9_soon_10 : decode cX9_soon 10 = .ok (.iload_n 2, 1) := by decide +kernel
theorem dX9_soon_11 : decode cX9_soon 11 = .ok (.invokestatic 170, 3) := by decide +kernel
theorem dX9_soon_14 : decode cX9_soon 14 = .ok (.ifCond .ne 6, 3) := by decide +kernel
theorem dX9_soon_17 : decode cX9_soon 17 = .ok (.ldc 48, 2) := by decide +kernel
theorem dX9_soon_19 : decode cX9_soon 19 = .ok (.ireturn, 1) := by decide +kernel
theorem dX9_soon_20 : decode cX9_soon 20 = .ok (.ldc 96, 2) := by decide +kernel
theorem dX9_soon_22 : decode cX9_soon 22 = .ok (.istore_n 3, 1) := by decide +kernel
theorem dX9_soon_23 : decode cX9_soon 23 = .ok (.iconst 0, 1) := by decide +kernel
theorem dX9_soon_24 : decode cX9_soon 24 = .ok (.istore 4, 2) := by decide +kernel
theorem dX9_soon_26 : decode cX9_soon 26 = .ok (.iload 4, 2) := by decide +kernel
theorem dX9_soon_28 : decode cX9_soon 28 = .ok (.bipush 6, 2) := by decide +kernel
theorem dX9_soon_30 : decode cX9_soon 30 = .ok (.if_icmp .ge 95, 3) := by decide +kernel
theorem dX9_soon_33 : decode cX9_soon 33 = .ok (.aload_n 0, 1) := by decide +kernel
theorem dX9_soon_34 : decode cX9_soon 34 = .ok (.getfield 10, 3) := by decide +kernel
theorem dX9_soon_37 : decode cX9_soon 37 = .ok (.iload 4, 2) := by decide +kernel
theorem dX9_soon_39 : decode cX9_soon 39 = .ok (.invokevirtual 173, 3) := by decide +kernel
theorem dX9_soon_42 : decode cX9_soon 42 = .ok (.istore 5, 2) := by decide +kernel
theorem dX9_soon_44 : decode cX9_soon 44 = .ok (.aload_n 0, 1) := by decide +kernel
theorem dX9_soon_45 : decode cX9_soon 45 = .ok (.getfield 10, 3) := by decide +kernel
theorem dX9_soon_48 : decode cX9_soon 48 = .ok (.getfield 114, 3) := by decide +kernel
theorem dX9_soon_51 : decode cX9_soon 51 = .ok (.iload 4, 2) := by decide +kernel
theorem dX9_soon_53 : decode cX9_soon 53 = .ok (.aload_n 0, 1) := by decide +kernel
theorem dX9_soon_54 : decode cX9_soon 54 = .ok (.getfield 10, 3) := by decide +kernel
theorem dX9_soon_57 : decode cX9_soon 57 = .ok (.getfield 176, 3) := by decide +kernel
theorem dX9_soon_60 : decode cX9_soon 60 = .ok (.iload 5, 2) := by decide +kernel
theorem dX9_soon_62 : decode cX9_soon 62 = .ok (.iload_n 2, 1) := by decide +kernel
theorem dX9_soon_63 : decode cX9_soon 63 = .ok (.iload_n 1, 1) := by decide +kernel
theorem dX9_soon_64 : decode cX9_soon 64 = .ok (.invokestatic 183, 3) := by decide +kernel
theorem dX9_soon_67 : decode cX9_soon 67 = .ok (.invokevirtual 187, 3) := by decide +kernel
theorem dX9_soon_70 : decode cX9_soon 70 = .ok (.istore 6, 2) := by decide +kernel
theorem dX9_soon_72 : decode cX9_soon 72 = .ok (.aload_n 0, 1) := by decide +kernel
theorem dX9_soon_73 : decode cX9_soon 73 = .ok (.getfield 10, 3) := by decide +kernel
theorem dX9_soon_76 : decode cX9_soon 76 = .ok (.getfield 49, 3) := by decide +kernel
theorem dX9_soon_79 : decode cX9_soon 79 = .ok (.iload 6, 2) := by decide +kernel
theorem dX9_soon_81 : decode cX9_soon 81 = .ok (.invokevirtual 69, 3) := by decide +kernel
theorem dX9_soon_84 : decode cX9_soon 84 = .ok (.ifCond .ne 6, 3) := by decide +kernel
theorem dX9_soon_87 : decode cX9_soon 87 = .ok (.goto 32, 3) := by decide +kernel
theorem dX9_soon_90 : decode cX9_soon 90 = .ok (.aload_n 0, 1) := by decide +kernel
theorem dX9_soon_91 : decode cX9_soon 91 = .ok (.getfield 10, 3) := by decide +kernel
theorem dX9_soon_94 : decode cX9_soon 94 = .ok (.getfield 49, 3) := by decide +kernel
theorem dX9_soon_97 : decode cX9_soon 97 = .ok (.iload 6, 2) := by decide +kernel
theorem dX9_soon_99 : decode cX9_soon 99 = .ok (.invokevirtual 123, 3) := by decide +kernel
theorem dX9_soon_102 : decode cX9_soon 102 = .ok (.istore 7, 2) := by decide +kernel
theorem dX9_soon_104 : decode cX9_soon 104 = .ok (.iload_n 3, 1) := by decide +kernel
theorem dX9_soon_105 : decode cX9_soon 105 = .ok (.ldc 96, 2) := by decide +kernel
theorem dX9_soon_107 : decode cX9_soon 107 = .ok (.if_icmp .eq 9, 3) := by decide +kernel
theorem dX9_soon_110 : decode cX9_soon 110 = .ok (.iload 7, 2) := by decide +kernel
theorem dX9_soon_112 : decode cX9_soon 112 = .ok (.iload_n 3, 1) := by decide +kernel
theorem dX9_soon_113 : decode cX9_soon 113 = .ok (.if_icmp .ge 6, 3) := by decide +kernel
theorem dX9_soon_116 : decode cX9_soon 116 = .ok (.iload 7, 2) := by decide +kernel
theorem dX9_soon_118 : decode cX9_soon 118 = .ok (.istore_n 3, 1) := by decide +kernel
theorem dX9_soon_119 : decode cX9_soon 119 = .ok (.iinc 4 1, 3) := by decide +kernel
theorem dX9_soon_122 : decode cX9_soon 122 = .ok (.goto (-96), 3) := by decide +kernel
theorem dX9_soon_125 : decode cX9_soon 125 = .ok (.iload_n 3, 1) := by decide +kernel
theorem dX9_soon_126 : decode cX9_soon 126 = .ok (.ireturn, 1) := by decide +kernel
theorem dX9_even_0 : decode cX9_even 0 = .ok (.iconst 0, 1) := by decide +kernel
theorem dX9_even_1 : decode cX9_even 1 = .ok (.istore_n 1, 1) := by decide +kernel
theorem dX9_even_2 : decode cX9_even 2 = .ok (.iconst 0, 1) := by decide +kernel
theorem dX9_even_3 : decode cX9_even 3 = .ok (.istore_n 2, 1) := by decide +kernel
theorem dX9_even_4 : decode cX9_even 4 = .ok (.iload_n 2, 1) := by decide +kernel
theorem dX9_even_5 : decode cX9_even 5 = .ok (.bipush 10, 2) := by decide +kernel
theorem dX9_even_7 : decode cX9_even 7 = .ok (.if_icmp .ge 41, 3) := by decide +kernel
theorem dX9_even_10 : decode cX9_even 10 = .ok (.bipush 10, 2) := by decide +kernel
theorem dX9_even_12 : decode cX9_even 12 = .ok (.aload_n 0, 1) := by decide +kernel
theorem dX9_even_13 : decode cX9_even 13 = .ok (.getfield 10, 3) := by decide +kernel
theorem dX9_even_16 : decode cX9_even 16 = .ok (.getfield 49, 3) := by decide +kernel
theorem dX9_even_19 : decode cX9_even 19 = .ok (.iload_n 2, 1) := by decide +kernel
theorem dX9_even_20 : decode cX9_even 20 = .ok (.invokevirtual 194, 3) := by decide +kernel
theorem dX9_even_23 : decode cX9_even 23 = .ok (.imul, 1) := by decide +kernel
theorem dX9_even_24 : decode cX9_even 24 = .ok (.aload_n 0, 1) := by decide +kernel
theorem dX9_even_25 : decode cX9_even 25 = .ok (.getfield 10, 3) := by decide +kernel
theorem dX9_even_28 : decode cX9_even 28 = .ok (.getfield 49, 3) := by decide +kernel
theorem dX9_even_31 : decode cX9_even 31 = .ok (.getfield 75, 3) := by decide +kernel
theorem dX9_even_34 : decode cX9_even 34 = .ok (.isub, 1) := by decide +kernel
theorem dX9_even_35 : decode cX9_even 35 = .ok (.istore_n 3, 1) := by decide +kernel
theorem dX9_even_36 : decode cX9_even 36 = .ok (.iload_n 1, 1) := by decide +kernel
theorem dX9_even_37 : decode cX9_even 37 = .ok (.iload_n 3, 1) := by decide +kernel
theorem dX9_even_38 : decode cX9_even 38 = .ok (.iload_n 3, 1) := by decide +kernel
theorem dX9_even_39 : decode cX9_even 39 = .ok (.imul, 1) := by decide +kernel
theorem dX9_even_40 : decode cX9_even 40 = .ok (.iadd, 1) := by decide +kernel
theorem dX9_even_41 : decode cX9_even 41 = .ok (.istore_n 1, 1) := by decide +kernel
theorem dX9_even_42 : decode cX9_even 42 = .ok (.iinc 2 1, 3) := by decide +kernel
theorem dX9_even_45 : decode cX9_even 45 = .ok (.goto (-41), 3) := by decide +kernel
theorem dX9_even_48 : decode cX9_even 48 = .ok (.iload_n 1, 1) := by decide +kernel
theorem dX9_even_49 : decode cX9_even 49 = .ok (.ireturn, 1) := by decide +kernel
theorem dX9_digit_0 : decode cX9_digit 0 = .ok (.iload_n 1, 1) := by decide +kernel
theorem dX9_digit_1 : decode cX9_digit 1 = .ok (.iconst 0, 1) := by decide +kernel
theorem dX9_digit_2 : decode cX9_digit 2 = .ok (.bipush 9, 2) := by decide +kernel
theorem dX9_digit_4 : decode cX9_digit 4 = .ok (.invokestatic 44, 3) := by decide +kernel
theorem dX9_digit_7 : decode cX9_digit 7 = .ok (.ifCond .ne 6, 3) := by decide +kernel
theorem dX9_digit_10 : decode cX9_digit 10 = .ok (.ldc 48, 2) := by decide +kernel
theorem dX9_digit_12 : decode cX9_digit 12 = .ok (.ireturn, 1) := by decide +kernel
theorem dX9_digit_13 : decode cX9_digit 13 = .ok (.aload_n 0, 1) := by decide +kernel
theorem dX9_digit_14 : decode cX9_digit 14 = .ok (.getfield 10, 3) := by decide +kernel
theorem dX9_digit_17 : decode cX9_digit 17 = .ok (.getfield 49, 3) := by decide +kernel
theorem dX9_digit_20 : decode cX9_digit 20 = .ok (.iload_n 1, 1) := by decide +kernel
theorem dX9_digit_21 : decode cX9_digit 21 = .ok (.invokevirtual 194, 3) := by decide +kernel
theorem dX9_digit_24 : decode cX9_digit 24 = .ok (.ireturn, 1) := by decide +kernel
theorem dX9_odd_0 : decode cX9_odd 0 = .ok (.iconst 0, 1) := by decide +kernel
theorem dX9_odd_1 : decode cX9_odd 1 = .ok (.istore_n 1, 1) := by decide +kernel
theorem dX9_odd_2 : decode cX9_odd 2 = .ok (.iconst 0, 1) := by decide +kernel
theorem dX9_odd_3 : decode cX9_odd 3 = .ok (.istore_n 2, 1) := by decide +kernel
theorem dX9_odd_4 : decode cX9_odd 4 = .ok (.iload_n 2, 1) := by decide +kernel
theorem dX9_odd_5 : decode cX9_odd 5 = .ok (.bipush 10, 2) := by decide +kernel
theorem dX9_odd_7 : decode cX9_odd 7 = .ok (.if_icmp .ge 26, 3) := by decide +kernel
theorem dX9_odd_10 : decode cX9_odd 10 = .ok (.aload_n 0, 1) := by decide +kernel
theorem dX9_odd_11 : decode cX9_odd 11 = .ok (.getfield 10, 3) := by decide +kernel
theorem dX9_odd_14 : decode cX9_odd 14 = .ok (.iload_n 2, 1) := by decide +kernel
theorem dX9_odd_15 : decode cX9_odd 15 = .ok (.invokevirtual 197, 3) := by decide +kernel
theorem dX9_odd_18 : decode cX9_odd 18 = .ok (.ifCond .eq 9, 3) := by decide +kernel
theorem dX9_odd_21 : decode cX9_odd 21 = .ok (.iload_n 1, 1) := by decide +kernel
theorem dX9_odd_22 : decode cX9_odd 22 = .ok (.iconst 1, 1) := by decide +kernel
theorem dX9_odd_23 : decode cX9_odd 23 = .ok (.iload_n 2, 1) := by decide +kernel
theorem dX9_odd_24 : decode cX9_odd 24 = .ok (.ishl, 1) := by decide +kernel
theorem dX9_odd_25 : decode cX9_odd 25 = .ok (.ior, 1) := by decide +kernel
theorem dX9_odd_26 : decode cX9_odd 26 = .ok (.istore_n 1, 1) := by decide +kernel
theorem dX9_odd_27 : decode cX9_odd 27 = .ok (.iinc 2 1, 3) := by decide +kernel
theorem dX9_odd_30 : decode cX9_odd 30 = .ok (.goto (-26), 3) := by decide +kernel
theorem dX9_odd_33 : decode cX9_odd 33 = .ok (.iload_n 1, 1) := by decide +kernel
theorem dX9_odd_34 : decode cX9_odd 34 = .ok (.ireturn, 1) := by decide +kernel
theorem dX9_choose_0 : decode cX9_choose 0 = .ok (.aload_n 0, 1) := by decide +kernel
theorem dX9_choose_1 : decode cX9_choose 1 = .ok (.getfield 10, 3) := by decide +kernel
theorem dX9_choose_4 : decode cX9_choose 4 = .ok (.getfield 49, 3) := by decide +kernel
theorem dX9_choose_7 : decode cX9_choose 7 = .ok (.iload_n 1, 1) := by decide +kernel
theorem dX9_choose_8 : decode cX9_choose 8 = .ok (.invokevirtual 69, 3) := by decide +kernel
theorem dX9_choose_11 : decode cX9_choose 11 = .ok (.ifCond .ne 6, 3) := by decide +kernel
theorem dX9_choose_14 : decode cX9_choose 14 = .ok (.ldc 48, 2) := by decide +kernel
theorem dX9_choose_16 : decode cX9_choose 16 = .ok (.ireturn, 1) := by decide +kernel
theorem dX9_choose_17 : decode cX9_choose 17 = .ok (.iconst 0, 1) := by decide +kernel
theorem dX9_choose_18 : decode cX9_choose 18 = .ok (.istore_n 2, 1) := by decide +kernel
theorem dX9_choose_19 : decode cX9_choose 19 = .ok (.iload_n 2, 1) := by decide +kernel
theorem dX9_choose_20 : decode cX9_choose 20 = .ok (.aload_n 0, 1) := by decide +kernel
theorem dX9_choose_21 : decode cX9_choose 21 = .ok (.getfield 10, 3) := by decide +kernel
theorem dX9_choose_24 : decode cX9_choose 24 = .ok (.getfield 200, 3) := by decide +kernel
theorem dX9_choose_27 : decode cX9_choose 27 = .ok (.if_icmp .ge 25, 3) := by decide +kernel
theorem dX9_choose_30 : decode cX9_choose 30 = .ok (.aload_n 0, 1) := by decide +kernel
theorem dX9_choose_31 : decode cX9_choose 31 = .ok (.getfield 10, 3) := by decide +kernel
theorem dX9_choose_34 : decode cX9_choose 34 = .ok (.getfield 203, 3) := by decide +kernel
theorem dX9_choose_37 : decode cX9_choose 37 = .ok (.iload_n 2, 1) := by decide +kernel
theorem dX9_choose_38 : decode cX9_choose 38 = .ok (.iaload, 1) := by decide +kernel
theorem dX9_choose_39 : decode cX9_choose 39 = .ok (.iload_n 1, 1) := by decide +kernel
theorem dX9_choose_40 : decode cX9_choose 40 = .ok (.if_icmp .ne 6, 3) := by decide +kernel
theorem dX9_choose_43 : decode cX9_choose 43 = .ok (.ldc 163, 2) := by decide +kernel
theorem dX9_choose_45 : decode cX9_choose 45 = .ok (.ireturn, 1) := by decide +kernel
theorem dX9_choose_46 : decode cX9_choose 46 = .ok (.iinc 2 1, 3) := by decide +kernel
theorem dX9_choose_49 : decode cX9_choose 49 = .ok (.goto (-30), 3) := by decide +kernel
theorem dX9_choose_52 : decode cX9_choose 52 = .ok (.aload_n 0, 1) := by decide +kernel
theorem dX9_choose_53 : decode cX9_choose 53 = .ok (.getfield 10, 3) := by decide +kernel
theorem dX9_choose_56 : decode cX9_choose 56 = .ok (.getfield 200, 3) := by decide +kernel
theorem dX9_choose_59 : decode cX9_choose 59 = .ok (.bipush 6, 2) := by decide +kernel
theorem dX9_choose_61 : decode cX9_choose 61 = .ok (.if_icmp .lt 6, 3) := by decide +kernel
theorem dX9_choose_64 : decode cX9_choose 64 = .ok (.ldc 79, 2) := by decide +kernel
theorem dX9_choose_66 : decode cX9_choose 66 = .ok (.ireturn, 1) := by decide +kernel
theorem dX9_choose_67 : decode cX9_choose 67 = .ok (.aload_n 0, 1) := by decide +kernel
theorem dX9_choose_68 : decode cX9_choose 68 = .ok (.getfield 10, 3) := by decide +kernel
theorem dX9_choose_71 : decode cX9_choose 71 = .ok (.getfield 203, 3) := by decide +kernel
theorem dX9_choose_74 : decode cX9_choose 74 = .ok (.aload_n 0, 1) := by decide +kernel
theorem dX9_choose_75 : decode cX9_choose 75 = .ok (.getfield 10, 3) := by decide +kernel
theorem dX9_choose_78 : decode cX9_choose 78 = .ok (.getfield 200, 3) := by decide +kernel
theorem dX9_choose_81 : decode cX9_choose 81 = .ok (.iload_n 1, 1) := by decide +kernel
theorem dX9_choose_82 : decode cX9_choose 82 = .ok (.iastore, 1) := by decide +kernel
theorem dX9_choose_83 : decode cX9_choose 83 = .ok (.aload_n 0, 1) := by decide +kernel
theorem dX9_choose_84 : decode cX9_choose 84 = .ok (.getfield 10, 3) := by decide +kernel
theorem dX9_choose_87 : decode cX9_choose 87 = .ok (.dup, 1) := by decide +kernel
theorem dX9_choose_88 : decode cX9_choose 88 = .ok (.getfield 200, 3) := by decide +kernel
theorem dX9_choose_91 : decode cX9_choose 91 = .ok (.iconst 1, 1) := by decide +kernel
theorem dX9_choose_92 : decode cX9_choose 92 = .ok (.iadd, 1) := by decide +kernel
theorem dX9_choose_93 : decode cX9_choose 93 = .ok (.putfield 200, 3) := by decide +kernel
theorem dX9_choose_96 : decode cX9_choose 96 = .ok (.aload_n 0, 1) := by decide +kernel
theorem dX9_choose_97 : decode cX9_choose 97 = .ok (.getfield 10, 3) := by decide +kernel
theorem dX9_choose_100 : decode cX9_choose 100 = .ok (.getfield 200, 3) := by decide +kernel
theorem dX9_choose_103 : decode cX9_choose 103 = .ok (.ireturn, 1) := by decide +kernel
theorem dX9_story_0 : decode cX9_story 0 = .ok (.iload_n 1, 1) := by decide +kernel
theorem dX9_story_1 : decode cX9_story 1 = .ok (.iconst 0, 1) := by decide +kernel
theorem dX9_story_2 : decode cX9_story 2 = .ok (.bipush 6, 2) := by decide +kernel
theorem dX9_story_4 : decode cX9_story 4 = .ok (.invokestatic 44, 3) := by decide +kernel
theorem dX9_story_7 : decode cX9_story 7 = .ok (.ifCond .eq 20, 3) := by decide +kernel
theorem dX9_story_10 : decode cX9_story 10 = .ok (.iload_n 2, 1) := by decide +kernel
theorem dX9_story_11 : decode cX9_story 11 = .ok (.iconst 0, 1) := by decide +kernel
theorem dX9_story_12 : decode cX9_story 12 = .ok (.iconst 1, 1) := by decide +kernel
theorem dX9_story_13 : decode cX9_story 13 = .ok (.aload_n 0, 1) := by decide +kernel
theorem dX9_story_14 : decode cX9_story 14 = .ok (.getfield 10, 3) := by decide +kernel
theorem dX9_story_17 : decode cX9_story 17 = .ok (.getfield 200, 3) := by decide +kernel
theorem dX9_story_20 : decode cX9_story 20 = .ok (.iadd, 1) := by decide +kernel
theorem dX9_story_21 : decode cX9_story 21 = .ok (.invokestatic 44, 3) := by decide +kernel
theorem dX9_story_24 : decode cX9_story 24 = .ok (.ifCond .ne 6, 3) := by decide +kernel
theorem dX9_story_27 : decode cX9_story 27 = .ok (.ldc 48, 2) := by decide +kernel
theorem dX9_story_29 : decode cX9_story 29 = .ok (.ireturn, 1) := by decide +kernel
theorem dX9_story_30 : decode cX9_story 30 = .ok (.iconst 0, 1) := by decide +kernel
theorem dX9_story_31 : decode cX9_story 31 = .ok (.istore_n 3, 1) := by decide +kernel
theorem dX9_story_32 : decode cX9_story 32 = .ok (.iconst 0, 1) := by decide +kernel
theorem dX9_story_33 : decode cX9_story 33 = .ok (.istore 4, 2) := by decide +kernel
theorem dX9_story_35 : decode cX9_story 35 = .ok (.iconst 0, 1) := by decide +kernel
theorem dX9_story_36 : decode cX9_story 36 = .ok (.istore 5, 2) := by decide +kernel
theorem dX9_story_38 : decode cX9_story 38 = .ok (.iload 5, 2) := by decide +kernel
theorem dX9_story_40 : decode cX9_story 40 = .ok (.aload_n 0, 1) := by decide +kernel
theorem dX9_story_41 : decode cX9_story 41 = .ok (.getfield 10, 3) := by decide +kernel
theorem dX9_story_44 : decode cX9_story 44 = .ok (.getfield 200, 3) := by decide +kernel
theorem dX9_story_47 : decode cX9_story 47 = .ok (.if_icmp .ge 68, 3) := by decide +kernel
theorem dX9_story_50 : decode cX9_story 50 = .ok (.aload_n 0, 1) := by decide +kernel
theorem dX9_story_51 : decode cX9_story 51 = .ok (.getfield 10, 3) := by decide +kernel
theorem dX9_story_54 : decode cX9_story 54 = .ok (.aload_n 0, 1) := by decide +kernel
theorem dX9_story_55 : decode cX9_story 55 = .ok (.getfield 10, 3) := by decide +kernel
theorem dX9_story_58 : decode cX9_story 58 = .ok (.getfield 203, 3) := by decide +kernel
theorem dX9_story_61 : decode cX9_story 61 = .ok (.iload 5, 2) := by decide +kernel
theorem dX9_story_63 : decode cX9_story 63 = .ok (.iaload, 1) := by decide +kernel
theorem dX9_story_64 : decode cX9_story 64 = .ok (.invokevirtual 206, 3) := by decide +kernel
theorem dX9_story_67 : decode cX9_story 67 = .ok (.istore 6, 2) := by decide +kernel
theorem dX9_story_69 : decode cX9_story 69 = .ok (.iload_n 3, 1) := by decide +kernel
theorem dX9_story_70 : decode cX9_story 70 = .ok (.iload 6, 2) := by decide +kernel
theorem dX9_story_72 : decode cX9_story 72 = .ok (.aload_n 0, 1) := by decide +kernel
theorem dX9_story_73 : decode cX9_story 73 = .ok (.getfield 10, 3) := by decide +kernel
theorem dX9_story_76 : decode cX9_story 76 = .ok (.getfield 49, 3) := by decide +kernel
theorem dX9_story_79 : decode cX9_story 79 = .ok (.getfield 90, 3) := by decide +kernel
theorem dX9_story_82 : decode cX9_story 82 = .ok (.aload_n 0, 1) := by decide +kernel
theorem dX9_story_83 : decode cX9_story 83 = .ok (.getfield 10, 3) := by decide +kernel
theorem dX9_story_86 : decode cX9_story 86 = .ok (.getfield 203, 3) := by decide +kernel
theorem dX9_story_89 : decode cX9_story 89 = .ok (.iload 5, 2) := by decide +kernel
theorem dX9_story_91 : decode cX9_story 91 = .ok (.iaload, 1) := by decide +kernel
theorem dX9_story_92 : decode cX9_story 92 = .ok (.iaload, 1) := by decide +kernel
theorem dX9_story_93 : decode cX9_story 93 = .ok (.invokestatic 101, 3) := by decide +kernel
theorem dX9_story_96 : decode cX9_story 96 = .ok (.iadd, 1) := by decide +kernel
theorem dX9_story_97 : decode cX9_story 97 = .ok (.istore_n 3, 1) := by decide +kernel
theorem dX9_story_98 : decode cX9_story 98 = .ok (.iload 6, 2) := by decide +kernel
theorem dX9_story_100 : decode cX9_story 100 = .ok (.invokestatic 209, 3) := by decide +kernel
theorem dX9_story_103 : decode cX9_story 103 = .ok (.ifCond .eq 6, 3) := by decide +kernel
theorem dX9_story_106 : decode cX9_story 106 = .ok (.iinc 4 1, 3) := by decide +kernel
theorem dX9_story_109 : decode cX9_story 109 = .ok (.iinc 5 1, 3) := by decide +kernel
theorem dX9_story_112 : decode cX9_story 112 = .ok (.goto (-74), 3) := by decide +kernel
theorem dX9_story_115 : decode cX9_story 115 = .ok (.iload 4, 2) := by decide +kernel
theorem dX9_story_117 : decode cX9_story 117 = .ok (.iload_n 1, 1) := by decide +kernel
theorem dX9_story_118 : decode cX9_story 118 = .ok (.if_icmp .le 6, 3) := by decide +kernel
theorem dX9_story_121 : decode cX9_story 121 = .ok (.ldc 96, 2) := by decide +kernel
theorem dX9_story_123 : decode cX9_story 123 = .ok (.ireturn, 1) := by decide +kernel
theorem dX9_story_124 : decode cX9_story 124 = .ok (.iload_n 2, 1) := by decide +kernel
theorem dX9_story_125 : decode cX9_story 125 = .ok (.ifCond .ne 5, 3) := by decide +kernel
theorem dX9_story_128 : decode cX9_story 128 = .ok (.iload_n 3, 1) := by decide +kernel
theorem dX9_story_129 : decode cX9_story 129 = .ok (.ireturn, 1) := by decide +kernel
theorem dX9_story_130 : decode cX9_story 130 = .ok (.iload_n 2, 1) := by decide +kernel
theorem dX9_story_131 : decode cX9_story 131 = .ok (.iconst 1, 1) := by decide +kernel
theorem dX9_story_132 : decode cX9_story 132 = .ok (.if_icmp .ne 6, 3) := by decide +kernel
theorem dX9_story_135 : decode cX9_story 135 = .ok (.iload 4, 2) := by decide +kernel
theorem dX9_story_137 : decode cX9_story 137 = .ok (.ireturn, 1) := by decide +kernel
theorem dX9_story_138 : decode cX9_story 138 = .ok (.aload_n 0, 1) := by decide +kernel
theorem dX9_story_139 : decode cX9_story 139 = .ok (.getfield 10, 3) := by decide +kernel
theorem dX9_story_142 : decode cX9_story 142 = .ok (.aload_n 0, 1) := by decide +kernel
theorem dX9_story_143 : decode cX9_story 143 = .ok (.getfield 10, 3) := by decide +kernel
theorem dX9_story_146 : decode cX9_story 146 = .ok (.getfield 203, 3) := by decide +kernel
theorem dX9_story_149 : decode cX9_story 149 = .ok (.iload_n 2, 1) := by decide +kernel
theorem dX9_story_150 : decode cX9_story 150 = .ok (.iconst 2, 1) := by decide +kernel
theorem dX9_story_151 : decode cX9_story 151 = .ok (.isub, 1) := by decide +kernel
theorem dX9_story_152 : decode cX9_story 152 = .ok (.iaload, 1) := by decide +kernel
theorem dX9_story_153 : decode cX9_story 153 = .ok (.invokevirtual 206, 3) := by decide +kernel
theorem dX9_story_156 : decode cX9_story 156 = .ok (.ireturn, 1) := by decide +kernel
theorem dX9_clear_0 : decode cX9_clear 0 = .ok (.aload_n 0, 1) := by decide +kernel
theorem dX9_clear_1 : decode cX9_clear 1 = .ok (.getfield 10, 3) := by decide +kernel
theorem dX9_clear_4 : decode cX9_clear 4 = .ok (.getfield 200, 3) := by decide +kernel
theorem dX9_clear_7 : decode cX9_clear 7 = .ok (.istore_n 1, 1) := by decide +kernel
theorem dX9_clear_8 : decode cX9_clear 8 = .ok (.aload_n 0, 1) := by decide +kernel
theorem dX9_clear_9 : decode cX9_clear 9 = .ok (.getfield 10, 3) := by decide +kernel
theorem dX9_clear_12 : decode cX9_clear 12 = .ok (.iconst 0, 1) := by decide +kernel
theorem dX9_clear_13 : decode cX9_clear 13 = .ok (.putfield 200, 3) := by decide +kernel
theorem dX9_clear_16 : decode cX9_clear 16 = .ok (.iload_n 1, 1) := by decide +kernel
theorem dX9_clear_17 : decode cX9_clear 17 = .ok (.ireturn, 1) := by decide +kernel
theorem dX9_road_0 : decode cX9_road 0 = .ok (.iload_n 1, 1) := by decide +kernel
theorem dX9_road_1 : decode cX9_road 1 = .ok (.invokestatic 212, 3) := by decide +kernel
theorem dX9_road_4 : decode cX9_road 4 = .ok (.ifCond .eq 25, 3) := by decide +kernel
theorem dX9_road_7 : decode cX9_road 7 = .ok (.iload_n 2, 1) := by decide +kernel
theorem dX9_road_8 : decode cX9_road 8 = .ok (.invokestatic 212, 3) := by decide +kernel
theorem dX9_road_11 : decode cX9_road 11 = .ok (.ifCond .eq 18, 3) := by decide +kernel
theorem dX9_road_14 : decode cX9_road 14 = .ok (.iload_n 1, 1) := by decide +kernel
theorem dX9_road_15 : decode cX9_road 15 = .ok (.iload_n 2, 1) := by decide +kernel
theorem dX9_road_16 : decode cX9_road 16 = .ok (.if_icmp .eq 13, 3) := by decide +kernel
theorem dX9_road_19 : decode cX9_road 19 = .ok (.iload_n 3, 1) := by decide +kernel
theorem dX9_road_20 : decode cX9_road 20 = .ok (.iconst 0, 1) := by decide +kernel
theorem dX9_road_21 : decode cX9_road 21 = .ok (.bipush 30, 2) := by decide +kernel
theorem dX9_road_23 : decode cX9_road 23 = .ok (.invokestatic 44, 3) := by decide +kernel
theorem dX9_road_26 : decode cX9_road 26 = .ok (.ifCond .ne 6, 3) := by decide +kernel
theorem dX9_road_29 : decode cX9_road 29 = .ok (.ldc 48, 2) := by decide +kernel
theorem dX9_road_31 : decode cX9_road 31 = .ok (.ireturn, 1) := by decide +kernel
theorem dX9_road_32 : decode cX9_road 32 = .ok (.aload_n 0, 1) := by decide +kernel
theorem dX9_road_33 : decode cX9_road 33 = .ok (.getfield 10, 3) := by decide +kernel
theorem dX9_road_36 : decode cX9_road 36 = .ok (.getfield 215, 3) := by decide +kernel
theorem dX9_road_39 : decode cX9_road 39 = .ok (.iload_n 1, 1) := by decide +kernel
theorem dX9_road_40 : decode cX9_road 40 = .ok (.iload_n 2, 1) := by decide +kernel
theorem dX9_road_41 : decode cX9_road 41 = .ok (.iload_n 3, 1) := by decide +kernel
theorem dX9_road_42 : decode cX9_road 42 = .ok (.invokevirtual 219, 3) := by decide +kernel
theorem dX9_road_45 : decode cX9_road 45 = .ok (.ireturn, 1) := by decide +kernel
theorem dX9_far_0 : decode cX9_far 0 = .ok (.iload_n 1, 1) := by decide +kernel
theorem dX9_far_1 : decode cX9_far 1 = .ok (.invokestatic 212, 3) := by decide +kernel
theorem dX9_far_4 : decode cX9_far 4 = .ok (.ifCond .eq 10, 3) := by decide +kernel
theorem dX9_far_7 : decode cX9_far 7 = .ok (.iload_n 2, 1) := by decide +kernel
theorem dX9_far_8 : decode cX9_far 8 = .ok (.invokestatic 212, 3) := by decide +kernel
theorem dX9_far_11 : decode cX9_far 11 = .ok (.ifCond .ne 6, 3) := by decide +kernel
theorem dX9_far_14 : decode cX9_far 14 = .ok (.ldc 48, 2) := by decide +kernel
theorem dX9_far_16 : decode cX9_far 16 = .ok (.ireturn, 1) := by decide +kernel
theorem dX9_far_17 : decode cX9_far 17 = .ok (.aload_n 0, 1) := by decide +kernel
theorem dX9_far_18 : decode cX9_far 18 = .ok (.getfield 10, 3) := by decide +kernel
theorem dX9_far_21 : decode cX9_far 21 = .ok (.getfield 215, 3) := by decide +kernel
theorem dX9_far_24 : decode cX9_far 24 = .ok (.iload_n 1, 1) := by decide +kernel
theorem dX9_far_25 : decode cX9_far 25 = .ok (.iload_n 2, 1) := by decide +kernel
theorem dX9_far_26 : decode cX9_far 26 = .ok (.invokevirtual 224, 3) := by decide +kernel
theorem dX9_far_29 : decode cX9_far 29 = .ok (.ireturn, 1) := by decide +kernel
theorem dX9_diary_0 : decode cX9_diary 0 = .ok (.iload_n 1, 1) := by decide +kernel
theorem dX9_diary_1 : decode cX9_diary 1 = .ok (.iconst 0, 1) := by decide +kernel
theorem dX9_diary_2 : decode cX9_diary 2 = .ok (.sipush 9999, 3) := by decide +kernel
theorem dX9_diary_5 : decode cX9_diary 5 = .ok (.invokestatic 44, 3) := by decide +kernel
theorem dX9_diary_8 : decode cX9_diary 8 = .ok (.ifCond .eq 10, 3) := by decide +kernel
theorem dX9_diary_11 : decode cX9_diary 11 = .ok (.iload_n 2, 1) := by decide +kernel
theorem dX9_diary_12 : decode cX9_diary 12 = .ok (.invokestatic 212, 3) := by decide +kernel
theorem dX9_diary_15 : decode cX9_diary 15 = .ok (.ifCond .ne 6, 3) := by decide +kernel
theorem dX9_diary_18 : decode cX9_diary 18 = .ok (.ldc 48, 2) := by decide +kernel
theorem dX9_diary_20 : decode cX9_diary 20 = .ok (.ireturn, 1) := by decide +kernel
theorem dX9_diary_21 : decode cX9_diary 21 = .ok (.aload_n 0, 1) := by decide +kernel
theorem dX9_diary_22 : decode cX9_diary 22 = .ok (.getfield 10, 3) := by decide +kernel
theorem dX9_diary_25 : decode cX9_diary 25 = .ok (.getfield 215, 3) := by decide +kernel
theorem dX9_diary_28 : decode cX9_diary 28 = .ok (.iload_n 1, 1) := by decide +kernel
theorem dX9_diary_29 : decode cX9_diary 29 = .ok (.iload_n 2, 1) := by decide +kernel
theorem dX9_diary_30 : decode cX9_diary 30 = .ok (.invokevirtual 227, 3) := by decide +kernel
theorem dX9_diary_33 : decode cX9_diary 33 = .ok (.ireturn, 1) := by decide +kernel
theorem dX9_could_0 : decode cX9_could 0 = .ok (.iload_n 1, 1) := by decide +kernel
theorem dX9_could_1 : decode cX9_could 1 = .ok (.invokestatic 212, 3) := by decide +kernel
theorem dX9_could_4 : decode cX9_could 4 = .ok (.ifCond .eq 24, 3) := by decide +kernel
theorem dX9_could_7 : decode cX9_could 7 = .ok (.iload_n 2, 1) := by decide +kernel
theorem dX9_could_8 : decode cX9_could 8 = .ok (.iconst 0, 1) := by decide +kernel
theorem dX9_could_9 : decode cX9_could 9 = .ok (.sipush 9999, 3) := by decide +kernel
theorem dX9_could_12 : decode cX9_could 12 = .ok (.invokestatic 44, 3) := by decide +kernel
theorem dX9_could_15 : decode cX9_could 15 = .ok (.ifCond .eq 13, 3) := by decide +kernel
theorem dX9_could_18 : decode cX9_could 18 = .ok (.iload_n 3, 1) := by decide +kernel
theorem dX9_could_19 : decode cX9_could 19 = .ok (.iconst 1, 1) := by decide +kernel
theorem dX9_could_20 : decode cX9_could 20 = .ok (.bipush 99, 2) := by decide +kernel
theorem dX9_could_22 : decode cX9_could 22 = .ok (.invokestatic 44, 3) := by decide +kernel
theorem dX9_could_25 : decode cX9_could 25 = .ok (.ifCond .ne 6, 3) := by decide +kernel
theorem dX9_could_28 : decode cX9_could 28 = .ok (.ldc 48, 2) := by decide +kernel
theorem dX9_could_30 : decode cX9_could 30 = .ok (.ireturn, 1) := by decide +kernel
theorem dX9_could_31 : decode cX9_could 31 = .ok (.aload_n 0, 1) := by decide +kernel
theorem dX9_could_32 : decode cX9_could 32 = .ok (.getfield 10, 3) := by decide +kernel
theorem dX9_could_35 : decode cX9_could 35 = .ok (.getfield 215, 3) := by decide +kernel
theorem dX9_could_38 : decode cX9_could 38 = .ok (.iload_n 1, 1) := by decide +kernel
theorem dX9_could_39 : decode cX9_could 39 = .ok (.iload_n 2, 1) := by decide +kernel
theorem dX9_could_40 : decode cX9_could 40 = .ok (.iload_n 2, 1) := by decide +kernel
theorem dX9_could_41 : decode cX9_could 41 = .ok (.iload_n 3, 1) := by decide +kernel
theorem dX9_could_42 : decode cX9_could 42 = .ok (.iadd, 1) := by decide +kernel
theorem dX9_could_43 : decode cX9_could 43 = .ok (.iconst 1, 1) := by decide +kernel
theorem dX9_could_44 : decode cX9_could 44 = .ok (.isub, 1) := by decide +kernel
theorem dX9_could_45 : decode cX9_could 45 = .ok (.invokevirtual 230, 3) := by decide +kernel
theorem dX9_could_48 : decode cX9_could 48 = .ok (.ifCond .eq 7, 3) := by decide +kernel
theorem dX9_could_51 : decode cX9_could 51 = .ok (.iconst 1, 1) := by decide +kernel
theorem dX9_could_52 : decode cX9_could 52 = .ok (.goto 4, 3) := by decide +kernel
theorem dX9_could_55 : decode cX9_could 55 = .ok (.iconst 0, 1) := by decide +kernel
theorem dX9_could_56 : decode cX9_could 56 = .ok (.ireturn, 1) := by decide +kernel
theorem dX9_leaner_0 : decode cX9_leaner 0 = .ok (.aload_n 0, 1) := by decide +kernel
theorem dX9_leaner_1 : decode cX9_leaner 1 = .ok (.getfield 10, 3) := by decide +kernel
theorem dX9_leaner_4 : decode cX9_leaner 4 = .ok (.getfield 233, 3) := by decide +kernel
theorem dX9_leaner_7 : decode cX9_leaner 7 = .ok (.astore 4, 2) := by decide +kernel
theorem dX9_leaner_9 : decode cX9_leaner 9 = .ok (.iload_n 1, 1) := by decide +kernel
theorem dX9_leaner_10 : decode cX9_leaner 10 = .ok (.aload_n 0, 1) := by decide +kernel
theorem dX9_leaner_11 : decode cX9_leaner 11 = .ok (.getfield 10, 3) := by decide +kernel
theorem dX9_leaner_14 : decode cX9_leaner 14 = .ok (.getfield 49, 3) := by decide +kernel
theorem dX9_leaner_17 : decode cX9_leaner 17 = .ok (.getfield 237, 3) := by decide +kernel
theorem dX9_leaner_20 : decode cX9_leaner 20 = .ok (.invokestatic 240, 3) := by decide +kernel
theorem dX9_leaner_23 : decode cX9_leaner 23 = .ok (.iconst (-1), 1) := by decide +kernel
theorem dX9_leaner_24 : decode cX9_leaner 24 = .ok (.ixor, 1) := by decide +kernel
theorem dX9_leaner_25 : decode cX9_leaner 25 = .ok (.iand, 1) := by decide +kernel
theorem dX9_leaner_26 : decode cX9_leaner 26 = .ok (.ifCond .eq 6, 3) := by decide +kernel
theorem dX9_leaner_29 : decode cX9_leaner 29 = .ok (.ldc 48, 2) := by decide +kernel
theorem dX9_leaner_31 : decode cX9_leaner 31 = .ok (.ireturn, 1) := by decide +kernel
theorem dX9_leaner_32 : decode cX9_leaner 32 = .ok (.iload_n 2, 1) := by decide +kernel
theorem dX9_leaner_33 : decode cX9_leaner 33 = .ok (.aload 4, 2) := by decide +kernel
theorem dX9_leaner_35 : decode cX9_leaner 35 = .ok (.getfield 243, 3) := by decide +kernel
theorem dX9_leaner_38 : decode cX9_leaner 38 = .ok (.invokestatic 240, 3) := by decide +kernel
theorem dX9_leaner_41 : decode cX9_leaner 41 = .ok (.iconst (-1), 1) := by decide +kernel
theorem dX9_leaner_42 : decode cX9_leaner 42 = .ok (.ixor, 1) := by decide +kernel
theorem dX9_leaner_43 : decode cX9_leaner 43 = .ok (.iand, 1) := by decide +kernel
theorem dX9_leaner_44 : decode cX9_leaner 44 = .ok (.ifCond .eq 6, 3) := by decide +kernel
theorem dX9_leaner_47 : decode cX9_leaner 47 = .ok (.ldc 48, 2) := by decide +kernel
theorem dX9_leaner_49 : decode cX9_leaner 49 = .ok (.ireturn, 1) := by decide +kernel
theorem dX9_leaner_50 : decode cX9_leaner 50 = .ok (.iload_n 3, 1) := by decide +kernel
theorem dX9_leaner_51 : decode cX9_leaner 51 = .ok (.iconst 0, 1) := by decide +kernel
theorem dX9_leaner_52 : decode cX9_leaner 52 = .ok (.bipush 28, 2) := by decide +kernel
theorem dX9_leaner_54 : decode cX9_leaner 54 = .ok (.invokestatic 44, 3) := by decide +kernel
theorem dX9_leaner_57 : decode cX9_leaner 57 = .ok (.ifCond .ne 6, 3) := by decide +kernel
theorem dX9_leaner_60 : decode cX9_leaner 60 = .ok (.ldc 48, 2) := by decide +kernel
theorem dX9_leaner_62 : decode cX9_leaner 62 = .ok (.ireturn, 1) := by decide +kernel
theorem dX9_leaner_63 : decode cX9_leaner 63 = .ok (.aload 4, 2) := by decide +kernel
theorem dX9_leaner_65 : decode cX9_leaner 65 = .ok (.iload_n 1, 1) := by decide +kernel
theorem dX9_leaner_66 : decode cX9_leaner 66 = .ok (.iload_n 2, 1) := by decide +kernel
theorem dX9_leaner_67 : decode cX9_leaner 67 = .ok (.iload_n 3, 1) := by decide +kernel
theorem dX9_leaner_68 : decode cX9_leaner 68 = .ok (.invokevirtual 248, 3) := by decide +kernel
theorem dX9_leaner_71 : decode cX9_leaner 71 = .ok (.ireturn, 1) := by decide +kernel
theorem dX9_falls_0 : decode cX9_falls 0 = .ok (.iload_n 1, 1) := by decide +kernel
theorem dX9_falls_1 : decode cX9_falls 1 = .ok (.iconst 0, 1) := by decide +kernel
theorem dX9_falls_2 : decode cX9_falls 2 = .ok (.bipush 12, 2) := by decide +kernel
theorem dX9_falls_4 : decode cX9_falls 4 = .ok (.invokestatic 240, 3) := by decide +kernel
theorem dX9_falls_7 : decode cX9_falls 7 = .ok (.invokestatic 44, 3) := by decide +kernel
theorem dX9_falls_10 : decode cX9_falls 10 = .ok (.ifCond .ne 6, 3) := by decide +kernel
theorem dX9_falls_13 : decode cX9_falls 13 = .ok (.ldc 48, 2) := by decide +kernel
theorem dX9_falls_15 : decode cX9_falls 15 = .ok (.ireturn, 1) := by decide +kernel
theorem dX9_falls_16 : decode cX9_falls 16 = .ok (.aload_n 0, 1) := by decide +kernel
theorem dX9_falls_17 : decode cX9_falls 17 = .ok (.getfield 10, 3) := by decide +kernel
theorem dX9_falls_20 : decode cX9_falls 20 = .ok (.getfield 233, 3) := by decide +kernel
theorem dX9_falls_23 : decode cX9_falls 23 = .ok (.iload_n 1, 1) := by decide +kernel
theorem dX9_falls_24 : decode cX9_falls 24 = .ok (.invokevirtual 251, 3) := by decide +kernel
theorem dX9_falls_27 : decode cX9_falls 27 = .ok (.ireturn, 1) := by decide +kernel
theorem dX9_left_0 : decode cX9_left 0 = .ok (.iload_n 1, 1) := by decide +kernel
theorem dX9_left_1 : decode cX9_left 1 = .ok (.iconst 0, 1) := by decide +kernel
theorem dX9_left_2 : decode cX9_left 2 = .ok (.bipush 12, 2) := by decide +kernel
theorem dX9_left_4 : decode cX9_left 4 = .ok (.invokestatic 240, 3) := by decide +kernel
theorem dX9_left_7 : decode cX9_left 7 = .ok (.invokestatic 44, 3) := by decide +kernel
theorem dX9_left_10 : decode cX9_left 10 = .ok (.ifCond .ne 6, 3) := by decide +kernel
theorem dX9_left_13 : decode cX9_left 13 = .ok (.ldc 48, 2) := by decide +kernel
theorem dX9_left_15 : decode cX9_left 15 = .ok (.ireturn, 1) := by decide +kernel
theorem dX9_left_16 : decode cX9_left 16 = .ok (.aload_n 0, 1) := by decide +kernel
theorem dX9_left_17 : decode cX9_left 17 = .ok (.getfield 10, 3) := by decide +kernel
theorem dX9_left_20 : decode cX9_left 20 = .ok (.getfield 233, 3) := by decide +kernel
theorem dX9_left_23 : decode cX9_left 23 = .ok (.getfield 243, 3) := by decide +kernel
theorem dX9_left_26 : decode cX9_left 26 = .ok (.invokestatic 240, 3) := by decide +kernel
theorem dX9_left_29 : decode cX9_left 29 = .ok (.aload_n 0, 1) := by decide +kernel
theorem dX9_left_30 : decode cX9_left 30 = .ok (.getfield 10, 3) := by decide +kernel
theorem dX9_left_33 : decode cX9_left 33 = .ok (.getfield 233, 3) := by decide +kernel
theorem dX9_left_36 : decode cX9_left 36 = .ok (.iload_n 1, 1) := by decide +kernel
theorem dX9_left_37 : decode cX9_left 37 = .ok (.invokevirtual 251, 3) := by decide +kernel
theorem dX9_left_40 : decode cX9_left 40 = .ok (.iconst (-1), 1) := by decide +kernel
theorem dX9_left_41 : decode cX9_left 41 = .ok (.ixor, 1) := by decide +kernel
theorem dX9_left_42 : decode cX9_left 42 = .ok (.iand, 1) := by decide +kernel
theorem dX9_left_43 : decode cX9_left 43 = .ok (.ireturn, 1) := by decide +kernel
theorem dX9_pillar_0 : decode cX9_pillar 0 = .ok (.ldc 96, 2) := by decide +kernel
theorem dX9_pillar_2 : decode cX9_pillar 2 = .ok (.istore_n 1, 1) := by decide +kernel
theorem dX9_pillar_3 : decode cX9_pillar 3 = .ok (.iconst (-1), 1) := by decide +kernel
theorem dX9_pillar_4 : decode cX9_pillar 4 = .ok (.istore_n 2, 1) := by decide +kernel
theorem dX9_pillar_5 : decode cX9_pillar 5 = .ok (.iconst 0, 1) := by decide +kernel
theorem dX9_pillar_6 : decode cX9_pillar 6 = .ok (.istore_n 3, 1) := by decide +kernel
theorem dX9_pillar_7 : decode cX9_pillar 7 = .ok (.iload_n 3, 1) := by decide +kernel
theorem dX9_pillar_8 : decode cX9_pillar 8 = .ok (.aload_n 0, 1) := by decide +kernel
theorem dX9_pillar_9 : decode cX9_pillar 9 = .ok (.getfield 10, 3) := by decide +kernel
theorem dX9_pillar_12 : decode cX9_pillar 12 = .ok (.getfield 49, 3) := by decide +kernel
theorem dX9_pillar_15 : decode cX9_pillar 15 = .ok (.getfield 237, 3) := by decide +kernel
theorem dX9_pillar_18 : decode cX9_pillar 18 = .ok (.if_icmp .ge 38, 3) := by decide +kernel
theorem dX9_pillar_21 : decode cX9_pillar 21 = .ok (.aload_n 0, 1) := by decide +kernel
theorem dX9_pillar_22 : decode cX9_pillar 22 = .ok (.getfield 10, 3) := by decide +kernel
theorem dX9_pillar_25 : decode cX9_pillar 25 = .ok (.getfield 233, 3) := by decide +kernel
theorem dX9_pillar_28 : decode cX9_pillar 28 = .ok (.iconst 1, 1) := by decide +kernel
theorem dX9_pillar_29 : decode cX9_pillar 29 = .ok (.iload_n 3, 1) := by decide +kernel
theorem dX9_pillar_30 : decode cX9_pillar 30 = .ok (.ishl, 1) := by decide +kernel
theorem dX9_pillar_31 : decode cX9_pillar 31 = .ok (.invokevirtual 251, 3) := by decide +kernel
theorem dX9_pillar_34 : decode cX9_pillar 34 = .ok (.invokestatic 254, 3) := by decide +kernel
theorem dX9_pillar_37 : decode cX9_pillar 37 = .ok (.istore 4, 2) := by decide +kernel
theorem dX9_pillar_39 : decode cX9_pillar 39 = .ok (.iload 4, 2) := by decide +kernel
theorem dX9_pillar_41 : decode cX9_pillar 41 = .ok (.iload_n 2, 1) := by decide +kernel
theorem dX9_pillar_42 : decode cX9_pillar 42 = .ok (.if_icmp .le 8, 3) := by decide +kernel
theorem dX9_pillar_45 : decode cX9_pillar 45 = .ok (.iload 4, 2) := by decide +kernel
theorem dX9_pillar_47 : decode cX9_pillar 47 = .ok (.istore_n 2, 1) := by decide +kernel
theorem dX9_pillar_48 : decode cX9_pillar 48 = .ok (.iload_n 3, 1) := by decide +kernel
theorem dX9_pillar_49 : decode cX9_pillar 49 = .ok (.istore_n 1, 1) := by decide +kernel
theorem dX9_pillar_50 : decode cX9_pillar 50 = .ok (.iinc 3 1, 3) := by decide +kernel
theorem dX9_pillar_53 : decode cX9_pillar 53 = .ok (.goto (-46), 3) := by decide +kernel
theorem dX9_pillar_56 : decode cX9_pillar 56 = .ok (.iload_n 1, 1) := by decide +kernel
theorem dX9_pillar_57 : decode cX9_pillar 57 = .ok (.ireturn, 1) := by decide +kernel
theorem dX9_source_0 : decode cX9_source 0 = .ok (.iload_n 1, 1) := by decide +kernel
theorem dX9_source_1 : decode cX9_source 1 = .ok (.iconst 0, 1) := by decide +kernel
theorem dX9_source_2 : decode cX9_source 2 = .ok (.bipush 16, 2) := by decide +kernel
theorem dX9_source_4 : decode cX9_source 4 = .ok (.invokestatic 240, 3) := by decide +kernel
theorem dX9_source_7 : decode cX9_source 7 = .ok (.invokestatic 44, 3) := by decide +kernel
theorem dX9_source_10 : decode cX9_source 10 = .ok (.ifCond .ne 6, 3) := by decide +kernel
theorem dX9_source_13 : decode cX9_source 13 = .ok (.ldc 48, 2) := by decide +kernel
theorem dX9_source_15 : decode cX9_source 15 = .ok (.ireturn, 1) := by decide +kernel
theorem dX9_source_16 : decode cX9_source 16 = .ok (.aload_n 0, 1) := by decide +kernel
theorem dX9_source_17 : decode cX9_source 17 = .ok (.getfield 10, 3) := by decide +kernel
theorem dX9_source_20 : decode cX9_source 20 = .ok (.getfield 233, 3) := by decide +kernel
theorem dX9_source_23 : decode cX9_source 23 = .ok (.iload_n 1, 1) := by decide +kernel
theorem dX9_source_24 : decode cX9_source 24 = .ok (.invokevirtual 259, 3) := by decide +kernel
theorem dX9_source_27 : decode cX9_source 27 = .ok (.ireturn, 1) := by decide +kernel
theorem dX9_next_0 : decode cX9_next 0 = .ok (.iload_n 1, 1) := by decide +kernel
theorem dX9_next_1 : decode cX9_next 1 = .ok (.iconst 1, 1) := by decide +kernel
theorem dX9_next_2 : decode cX9_next 2 = .ok (.bipush 8, 2) := by decide +kernel
theorem dX9_next_4 : decode cX9_next 4 = .ok (.invokestatic 240, 3) := by decide +kernel
theorem dX9_next_7 : decode cX9_next 7 = .ok (.invokestatic 44, 3) := by decide +kernel
theorem dX9_next_10 : decode cX9_next 10 = .ok (.ifCond .ne 6, 3) := by decide +kernel
theorem dX9_next_13 : decode cX9_next 13 = .ok (.ldc 48, 2) := by decide +kernel
theorem dX9_next_15 : decode cX9_next 15 = .ok (.ireturn, 1) := by decide +kernel
theorem dX9_next_16 : decode cX9_next 16 = .ok (.aload_n 0, 1) := by decide +kernel
theorem dX9_next_17 : decode cX9_next 17 = .ok (.getfield 10, 3) := by decide +kernel
theorem dX9_next_20 : decode cX9_next 20 = .ok (.getfield 233, 3) := by decide +kernel
theorem dX9_next_23 : decode cX9_next 23 = .ok (.iload_n 1, 1) := by decide +kernel
theorem dX9_next_24 : decode cX9_next 24 = .ok (.invokevirtual 262, 3) := by decide +kernel
theorem dX9_next_27 : decode cX9_next 27 = .ok (.ireturn, 1) := by decide +kernel
theorem dX9_heard_0 : decode cX9_heard 0 = .ok (.iload_n 1, 1) := by decide +kernel
theorem dX9_heard_1 : decode cX9_heard 1 = .ok (.iconst 0, 1) := by decide +kernel
theorem dX9_heard_2 : decode cX9_heard 2 = .ok (.bipush 8, 2) := by decide +kernel
theorem dX9_heard_4 : decode cX9_heard 4 = .ok (.invokestatic 240, 3) := by decide +kernel
theorem dX9_heard_7 : decode cX9_heard 7 = .ok (.invokestatic 44, 3) := by decide +kernel
theorem dX9_heard_10 : decode cX9_heard 10 = .ok (.ifCond .eq 32, 3) := by decide +kernel
theorem dX9_heard_13 : decode cX9_heard 13 = .ok (.iload_n 2, 1) := by decide +kernel
theorem dX9_heard_14 : decode cX9_heard 14 = .ok (.iconst 0, 1) := by decide +kernel
theorem dX9_heard_15 : decode cX9_heard 15 = .ok (.aload_n 0, 1) := by decide +kernel
theorem dX9_heard_16 : decode cX9_heard 16 = .ok (.getfield 10, 3) := by decide +kernel
theorem dX9_heard_19 : decode cX9_heard 19 = .ok (.getfield 233, 3) := by decide +kernel
theorem dX9_heard_22 : decode cX9_heard 22 = .ok (.getfield 265, 3) := by decide +kernel
theorem dX9_heard_25 : decode cX9_heard 25 = .ok (.iconst 1, 1) := by decide +kernel
theorem dX9_heard_26 : decode cX9_heard 26 = .ok (.isub, 1) := by decide +kernel
theorem dX9_heard_27 : decode cX9_heard 27 = .ok (.invokestatic 44, 3) := by decide +kernel
theorem dX9_heard_30 : decode cX9_heard 30 = .ok (.ifCond .eq 12, 3) := by decide +kernel
theorem dX9_heard_33 : decode cX9_heard 33 = .ok (.iload_n 3, 1) := by decide +kernel
theorem dX9_heard_34 : decode cX9_heard 34 = .ok (.iconst 0, 1) := by decide +kernel
theorem dX9_heard_35 : decode cX9_heard 35 = .ok (.iconst 3, 1) := by decide +kernel
theorem dX9_heard_36 : decode cX9_heard 36 = .ok (.invokestatic 44, 3) := by decide +kernel
theorem dX9_heard_39 : decode cX9_heard 39 = .ok (.ifCond .ne 6, 3) := by decide +kernel
theorem dX9_heard_42 : decode cX9_heard 42 = .ok (.ldc 48, 2) := by decide +kernel
theorem dX9_heard_44 : decode cX9_heard 44 = .ok (.ireturn, 1) := by decide +kernel
theorem dX9_heard_45 : decode cX9_heard 45 = .ok (.aload_n 0, 1) := by decide +kernel
theorem dX9_heard_46 : decode cX9_heard 46 = .ok (.getfield 10, 3) := by decide +kernel
theorem dX9_heard_49 : decode cX9_heard 49 = .ok (.getfield 233, 3) := by decide +kernel
theorem dX9_heard_52 : decode cX9_heard 52 = .ok (.iload_n 1, 1) := by decide +kernel
theorem dX9_heard_53 : decode cX9_heard 53 = .ok (.iload_n 2, 1) := by decide +kernel
theorem dX9_heard_54 : decode cX9_heard 54 = .ok (.iload_n 3, 1) := by decide +kernel
theorem dX9_heard_55 : decode cX9_heard 55 = .ok (.invokevirtual 268, 3) := by decide +kernel
theorem dX9_heard_58 : decode cX9_heard 58 = .ok (.ireturn, 1) := by decide +kernel
theorem dX9_seed_0 : decode cX9_seed 0 = .ok (.aload_n 0, 1) := by decide +kernel
theorem dX9_seed_1 : decode cX9_seed 1 = .ok (.getfield 10, 3) := by decide +kernel
theorem dX9_seed_4 : decode cX9_seed 4 = .ok (.getfield 271, 3) := by decide +kernel
theorem dX9_seed_7 : decode cX9_seed 7 = .ok (.istore_n 2, 1) := by decide +kernel
theorem dX9_seed_8 : decode cX9_seed 8 = .ok (.aload_n 0, 1) := by decide +kernel
theorem dX9_seed_9 : decode cX9_seed 9 = .ok (.getfield 10, 3) := by decide +kernel
theorem dX9_seed_12 : decode cX9_seed 12 = .ok (.iload_n 1, 1) := by decide +kernel
theorem dX9_seed_13 : decode cX9_seed 13 = .ok (.putfield 271, 3) := by decide +kernel
theorem dX9_seed_16 : decode cX9_seed 16 = .ok (.iload_n 2, 1) := by decide +kernel
theorem dX9_seed_17 : decode cX9_seed 17 = .ok (.ireturn, 1) := by decide +kernel
theorem dX9_share_0 : decode cX9_share 0 = .ok (.iload_n 1, 1) := by decide +kernel
theorem dX9_share_1 : decode cX9_share 1 = .ok (.bipush 100, 2) := by decide +kernel
theorem dX9_share_3 : decode cX9_share 3 = .ok (.idiv, 1) := by decide +kernel
theorem dX9_share_4 : decode cX9_share 4 = .ok (.istore 5, 2) := by decide +kernel
theorem dX9_share_6 : decode cX9_share 6 = .ok (.iload_n 1, 1) := by decide +kernel
theorem dX9_share_7 : decode cX9_share 7 = .ok (.bipush 100, 2) := by decide +kernel
theorem dX9_share_9 : decode cX9_share 9 = .ok (.irem, 1) := by decide +kernel
theorem dX9_share_10 : decode cX9_share 10 = .ok (.istore 6, 2) := by decide +kernel
theorem dX9_share_12 : decode cX9_share 12 = .ok (.iload 5, 2) := by decide +kernel
theorem dX9_share_14 : decode cX9_share 14 = .ok (.iconst 1, 1) := by decide +kernel
theorem dX9_share_15 : decode cX9_share 15 = .ok (.sipush 200, 3) := by decide +kernel
theorem dX9_share_18 : decode cX9_share 18 = .ok (.invokestatic 44, 3) := by decide +kernel
theorem dX9_share_21 : decode cX9_share 21 = .ok (.ifCond .eq 18, 3) := by decide +kernel
theorem dX9_share_24 : decode cX9_share 24 = .ok (.iload 6, 2) := by decide +kernel
theorem dX9_share_26 : decode cX9_share 26 = .ok (.invokestatic 274, 3) := by decide +kernel
theorem dX9_share_29 : decode cX9_share 29 = .ok (.ifCond .eq 10, 3) := by decide +kernel
theorem dX9_share_32 : decode cX9_share 32 = .ok (.iload_n 2, 1) := by decide +kernel
theorem dX9_share_33 : decode cX9_share 33 = .ok (.invokestatic 66, 3) := by decide +kernel
theorem dX9_share_36 : decode cX9_share 36 = .ok (.ifCond .ne 6, 3) := by decide +kernel
theorem dX9_share_39 : decode cX9_share 39 = .ok (.ldc 48, 2) := by decide +kernel
theorem dX9_share_41 : decode cX9_share 41 = .ok (.ireturn, 1) := by decide +kernel
theorem dX9_share_42 : decode cX9_share 42 = .ok (.iload_n 3, 1) := by decide +kernel
theorem dX9_share_43 : decode cX9_share 43 = .ok (.iconst 2, 1) := by decide +kernel
theorem dX9_share_44 : decode cX9_share 44 = .ok (.bipush 12, 2) := by decide +kernel
theorem dX9_share_46 : decode cX9_share 46 = .ok (.invokestatic 44, 3) := by decide +kernel
theorem dX9_share_49 : decode cX9_share 49 = .ok (.ifCond .eq 11, 3) := by decide +kernel
theorem dX9_share_52 : decode cX9_share 52 = .ok (.iload 4, 2) := by decide +kernel
theorem dX9_share_54 : decode cX9_share 54 = .ok (.invokestatic 170, 3) := by decide +kernel
theorem dX9_share_57 : decode cX9_share 57 = .ok (.ifCond .ne 6, 3) := by decide +kernel
theorem dX9_share_60 : decode cX9_share 60 = .ok (.ldc 48, 2) := by decide +kernel
theorem dX9_share_62 : decode cX9_share 62 = .ok (.ireturn, 1) := by decide +kernel
theorem dX9_share_63 : decode cX9_share 63 = .ok (.iconst 0, 1) := by decide +kernel
theorem dX9_share_64 : decode cX9_share 64 = .ok (.istore 7, 2) := by decide +kernel
theorem dX9_share_66 : decode cX9_share 66 = .ok (.iconst 0, 1) := by decide +kernel
theorem dX9_share_67 : decode cX9_share 67 = .ok (.istore 8, 2) := by decide +kernel
theorem dX9_share_69 : decode cX9_share 69 = .ok (.iload 8, 2) := by decide +kernel
theorem dX9_share_71 : decode cX9_share 71 = .ok (.iload 5, 2) := by decide +kernel
theorem dX9_share_73 : decode cX9_share 73 = .ok (.if_icmp .ge 40, 3) := by decide +kernel
theorem dX9_share_76 : decode cX9_share 76 = .ok (.aload_n 0, 1) := by decide +kernel
theorem dX9_share_77 : decode cX9_share 77 = .ok (.getfield 10, 3) := by decide +kernel
theorem dX9_share_80 : decode cX9_share 80 = .ok (.iload 6, 2) := by decide +kernel
theorem dX9_share_82 : decode cX9_share 82 = .ok (.iload_n 2, 1) := by decide +kernel
theorem dX9_share_83 : decode cX9_share 83 = .ok (.invokevirtual 277, 3) := by decide +kernel
theorem dX9_share_86 : decode cX9_share 86 = .ok (.aload_n 0, 1) := by decide +kernel
theorem dX9_share_87 : decode cX9_share 87 = .ok (.getfield 10, 3) := by decide +kernel
theorem dX9_share_90 : decode cX9_share 90 = .ok (.getfield 176, 3) := by decide +kernel
theorem dX9_share_93 : decode cX9_share 93 = .ok (.iload 6, 2) := by decide +kernel
theorem dX9_share_95 : decode cX9_share 95 = .ok (.iload 4, 2) := by decide +kernel
theorem dX9_share_97 : decode cX9_share 97 = .ok (.iload_n 3, 1) := by decide +kernel
theorem dX9_share_98 : decode cX9_share 98 = .ok (.invokestatic 183, 3) := by decide +kernel
theorem dX9_share_101 : decode cX9_share 101 = .ok (.ifCond .lt 6, 3) := by decide +kernel
theorem dX9_share_104 : decode cX9_share 104 = .ok (.iinc 7 1, 3) := by decide +kernel
theorem dX9_share_107 : decode cX9_share 107 = .ok (.iinc 8 1, 3) := by decide +kernel
theorem dX9_share_110 : decode cX9_share 110 = .ok (.goto (-41), 3) := by decide +kernel
theorem dX9_share_113 : decode cX9_share 113 = .ok (.iload 7, 2) := by decide +kernel
theorem dX9_share_115 : decode cX9_share 115 = .ok (.ireturn, 1) := by decide +kernel
theorem dX9_sheet_0 : decode cX9_sheet 0 = .ok (.iload_n 1, 1) := by decide +kernel
theorem dX9_sheet_1 : decode cX9_sheet 1 = .ok (.invokestatic 281, 3) := by decide +kernel
theorem dX9_sheet_4 : decode cX9_sheet 4 = .ok (.ifCond .eq 12, 3) := by decide +kernel
theorem dX9_sheet_7 : decode cX9_sheet 7 = .ok (.iload_n 2, 1) := by decide +kernel
theorem dX9_sheet_8 : decode cX9_sheet 8 = .ok (.iconst (-1), 1) := by decide +kernel
theorem dX9_sheet_9 : decode cX9_sheet 9 = .ok (.iconst 1, 1) := by decide +kernel
theorem dX9_sheet_10 : decode cX9_sheet 10 = .ok (.invokestatic 44, 3) := by decide +kernel
theorem dX9_sheet_13 : decode cX9_sheet 13 = .ok (.ifCond .ne 6, 3) := by decide +kernel
theorem dX9_sheet_16 : decode cX9_sheet 16 = .ok (.ldc 48, 2) := by decide +kernel
theorem dX9_sheet_18 : decode cX9_sheet 18 = .ok (.ireturn, 1) := by decide +kernel
theorem dX9_sheet_19 : decode cX9_sheet 19 = .ok (.iload_n 2, 1) := by decide +kernel
theorem dX9_sheet_20 : decode cX9_sheet 20 = .ok (.iconst (-1), 1) := by decide +kernel
theorem dX9_sheet_21 : decode cX9_sheet 21 = .ok (.if_icmp .ne 15, 3) := by decide +kernel
theorem dX9_sheet_24 : decode cX9_sheet 24 = .ok (.aload_n 0, 1) := by decide +kernel
theorem dX9_sheet_25 : decode cX9_sheet 25 = .ok (.getfield 32, 3) := by decide +kernel
theorem dX9_sheet_28 : decode cX9_sheet 28 = .ok (.iload_n 1, 1) := by decide +kernel
theorem dX9_sheet_29 : decode cX9_sheet 29 = .ok (.aaload, 1) := by decide +kernel
theorem dX9_sheet_30 : decode cX9_sheet 30 = .ok (.iconst (-1), 1) := by decide +kernel
theorem dX9_sheet_31 : decode cX9_sheet 31 = .ok (.iconst 0, 1) := by decide +kernel
theorem dX9_sheet_32 : decode cX9_sheet 32 = .ok (.invokevirtual 284, 3) := by decide +kernel
theorem dX9_sheet_35 : decode cX9_sheet 35 = .ok (.ireturn, 1) := by decide +kernel
theorem dX9_sheet_36 : decode cX9_sheet 36 = .ok (.iload_n 3, 1) := by decide +kernel
theorem dX9_sheet_37 : decode cX9_sheet 37 = .ok (.bipush 24, 2) := by decide +kernel
theorem dX9_sheet_39 : decode cX9_sheet 39 = .ok (.if_icmp .le 6, 3) := by decide +kernel
theorem dX9_sheet_42 : decode cX9_sheet 42 = .ok (.ldc 48, 2) := by decide +kernel
theorem dX9_sheet_44 : decode cX9_sheet 44 = .ok (.ireturn, 1) := by decide +kernel
theorem dX9_sheet_45 : decode cX9_sheet 45 = .ok (.iload_n 3, 1) := by decide +kernel
theorem dX9_sheet_46 : decode cX9_sheet 46 = .ok (.ifCond .ge 7, 3) := by decide +kernel
theorem dX9_sheet_49 : decode cX9_sheet 49 = .ok (.ldc_w 287, 3) := by decide +kernel
theorem dX9_sheet_52 : decode cX9_sheet 52 = .ok (.ireturn, 1) := by decide +kernel
theorem dX9_sheet_53 : decode cX9_sheet 53 = .ok (.aload_n 0, 1) := by decide +kernel
theorem dX9_sheet_54 : decode cX9_sheet 54 = .ok (.getfield 32, 3) := by decide +kernel
theorem dX9_sheet_57 : decode cX9_sheet 57 = .ok (.iload_n 1, 1) := by decide +kernel
theorem dX9_sheet_58 : decode cX9_sheet 58 = .ok (.aaload, 1) := by decide +kernel
theorem dX9_sheet_59 : decode cX9_sheet 59 = .ok (.iload_n 2, 1) := by decide +kernel
theorem dX9_sheet_60 : decode cX9_sheet 60 = .ok (.iload_n 3, 1) := by decide +kernel
theorem dX9_sheet_61 : decode cX9_sheet 61 = .ok (.invokevirtual 284, 3) := by decide +kernel
theorem dX9_sheet_64 : decode cX9_sheet 64 = .ok (.ireturn, 1) := by decide +kernel
theorem dX9_mark_0 : decode cX9_mark 0 = .ok (.iload_n 1, 1) := by decide +kernel
theorem dX9_mark_1 : decode cX9_mark 1 = .ok (.invokestatic 281, 3) := by decide +kernel
theorem dX9_mark_4 : decode cX9_mark 4 = .ok (.ifCond .ne 6, 3) := by decide +kernel
theorem dX9_mark_7 : decode cX9_mark 7 = .ok (.ldc 48, 2) := by decide +kernel
theorem dX9_mark_9 : decode cX9_mark 9 = .ok (.ireturn, 1) := by decide +kernel
theorem dX9_mark_10 : decode cX9_mark 10 = .ok (.aload_n 0, 1) := by decide +kernel
theorem dX9_mark_11 : decode cX9_mark 11 = .ok (.getfield 32, 3) := by decide +kernel
theorem dX9_mark_14 : decode cX9_mark 14 = .ok (.iload_n 1, 1) := by decide +kernel
theorem dX9_mark_15 : decode cX9_mark 15 = .ok (.aaload, 1) := by decide +kernel
theorem dX9_mark_16 : decode cX9_mark 16 = .ok (.astore 4, 2) := by decide +kernel
theorem dX9_mark_18 : decode cX9_mark 18 = .ok (.aload 4, 2) := by decide +kernel
theorem dX9_mark_20 : decode cX9_mark 20 = .ok (.getfield 288, 3) := by decide +kernel
theorem dX9_mark_23 : decode cX9_mark 23 = .ok (.iconst (-1), 1) := by decide +kernel
theorem dX9_mark_24 : decode cX9_mark 24 = .ok (.if_icmp .ne 7, 3) := by decide +kernel
theorem dX9_mark_27 : decode cX9_mark 27 = .ok (.ldc_w 291, 3) := by decide +kernel
theorem dX9_mark_30 : decode cX9_mark 30 = .ok (.ireturn, 1) := by decide +kernel
theorem dX9_mark_31 : decode cX9_mark 31 = .ok (.aload 4, 2) := by decide +kernel
theorem dX9_mark_33 : decode cX9_mark 33 = .ok (.iload_n 2, 1) := by decide +kernel
theorem dX9_mark_34 : decode cX9_mark 34 = .ok (.invokevirtual 292, 3) := by decide +kernel
theorem dX9_mark_37 : decode cX9_mark 37 = .ok (.ifCond .ne 7, 3) := by decide +kernel
theorem dX9_mark_40 : decode cX9_mark 40 = .ok (.ldc_w 293, 3) := by decide +kernel
theorem dX9_mark_43 : decode cX9_mark 43 = .ok (.ireturn, 1) := by decide +kernel
theorem dX9_mark_44 : decode cX9_mark 44 = .ok (.aload 4, 2) := by decide +kernel
theorem dX9_mark_46 : decode cX9_mark 46 = .ok (.getfield 288, 3) := by decide +kernel
theorem dX9_mark_49 : decode cX9_mark 49 = .ok (.iconst 1, 1) := by decide +kernel
theorem dX9_mark_50 : decode cX9_mark 50 = .ok (.if_icmp .ne 23, 3) := by decide +kernel
theorem dX9_mark_53 : decode cX9_mark 53 = .ok (.iload_n 3, 1) := by decide +kernel
theorem dX9_mark_54 : decode cX9_mark 54 = .ok (.ldc 96, 2) := by decide +kernel
theorem dX9_mark_56 : decode cX9_mark 56 = .ok (.if_icmp .ne 6, 3) := by decide +kernel
theorem dX9_mark_59 : decode cX9_mark 59 = .ok (.ldc 129, 2) := by decide +kernel
theorem dX9_mark_61 : decode cX9_mark 61 = .ok (.ireturn, 1) := by decide +kernel
theorem dX9_mark_62 : decode cX9_mark 62 = .ok (.aload 4, 2) := by decide +kernel
theorem dX9_mark_64 : decode cX9_mark 64 = .ok (.getfield 294, 3) := by decide +kernel
theorem dX9_mark_67 : decode cX9_mark 67 = .ok (.iload_n 2, 1) := by decide +kernel
theorem dX9_mark_68 : decode cX9_mark 68 = .ok (.iload_n 3, 1) := by decide +kernel
theorem dX9_mark_69 : decode cX9_mark 69 = .ok (.i2s, 1) := by decide +kernel
theorem dX9_mark_70 : decode cX9_mark 70 = .ok (.iastore, 1) := by decide +kernel
theorem dX9_mark_71 : decode cX9_mark 71 = .ok (.iconst 1, 1) := by decide +kernel
theorem dX9_mark_72 : decode cX9_mark 72 = .ok (.ireturn, 1) := by decide +kernel
theorem dX9_mark_73 : decode cX9_mark 73 = .ok (.iload_n 3, 1) := by decide +kernel
theorem dX9_mark_74 : decode cX9_mark 74 = .ok (.ldc 96, 2) := by decide +kernel
theorem dX9_mark_76 : decode cX9_mark 76 = .ok (.if_icmp .eq 19, 3) := by decide +kernel
theorem dX9_mark_79 : decode cX9_mark 79 = .ok (.iload_n 3, 1) := by decide +kernel
theorem dX9_mark_80 : decode cX9_mark 80 = .ok (.ldc_w 297, 3) := by decide +kernel
theorem dX9_mark_83 : decode cX9_mark 83 = .ok (.ldc_w 298, 3) := by decide +kernel
theorem dX9_mark_86 : decode cX9_mark 86 = .ok (.invokestatic 44, 3) := by decide +kernel
theorem dX9_mark_89 : decode cX9_mark 89 = .ok (.ifCond .ne 6, 3) := by decide +kernel
theorem dX9_mark_92 : decode cX9_mark 92 = .ok (.ldc 48, 2) := by decide +kernel
theorem dX9_mark_94 : decode cX9_mark 94 = .ok (.ireturn, 1) := by decide +kernel
theorem dX9_mark_95 : decode cX9_mark 95 = .ok (.aload 4, 2) := by decide +kernel
theorem dX9_mark_97 : decode cX9_mark 97 = .ok (.getfield 294, 3) := by decide +kernel
theorem dX9_mark_100 : decode cX9_mark 100 = .ok (.iload_n 2, 1) := by decide +kernel
theorem dX9_mark_101 : decode cX9_mark 101 = .ok (.iload_n 3, 1) := by decide +kernel
theorem dX9_mark_102 : decode cX9_mark 102 = .ok (.iastore, 1) := by decide +kernel
theorem dX9_mark_103 : decode cX9_mark 103 = .ok (.iconst 1, 1) := by decide +kernel
theorem dX9_mark_104 : decode cX9_mark 104 = .ok (.ireturn, 1) := by decide +kernel
theorem dX9_print_0 : decode cX9_print 0 = .ok (.aload_n 0, 1) := by decide +kernel
theorem dX9_print_1 : decode cX9_print 1 = .ok (.getfield 10, 3) := by decide +kernel
theorem dX9_print_4 : decode cX9_print 4 = .ok (.getfield 49, 3) := by decide +kernel
theorem dX9_print_7 : decode cX9_print 7 = .ok (.iload_n 1, 1) := by decide +kernel
theorem dX9_print_8 : decode cX9_print 8 = .ok (.invokevirtual 59, 3) := by decide +kernel
theorem dX9_print_11 : decode cX9_print 11 = .ok (.ifCond .eq 17, 3) := by decide +kernel
theorem dX9_print_14 : decode cX9_print 14 = .ok (.iload_n 2, 1) := by decide +kernel
theorem dX9_print_15 : decode cX9_print 15 = .ok (.invokestatic 281, 3) := by decide +kernel
theorem dX9_print_18 : decode cX9_print 18 = .ok (.ifCond .eq 10, 3) := by decide +kernel
theorem dX9_print_21 : decode cX9_print 21 = .ok (.iload_n 3, 1) := by decide +kernel
theorem dX9_print_22 : decode cX9_print 22 = .ok (.invokestatic 66, 3) := by decide +kernel
theorem dX9_print_25 : decode cX9_print 25 = .ok (.ifCond .ne 6, 3) := by decide +kernel
theorem dX9_print_28 : decode cX9_print 28 = .ok (.ldc 48, 2) := by decide +kernel
theorem dX9_print_30 : decode cX9_print 30 = .ok (.ireturn, 1) := by decide +kernel
theorem dX9_print_31 : decode cX9_print 31 = .ok (.aload_n 0, 1) := by decide +kernel
theorem dX9_print_32 : decode cX9_print 32 = .ok (.getfield 32, 3) := by decide +kernel
theorem dX9_print_35 : decode cX9_print 35 = .ok (.iload_n 2, 1) := by decide +kernel
theorem dX9_print_36 : decode cX9_print 36 = .ok (.aaload, 1) := by decide +kernel
theorem dX9_print_37 : decode cX9_print 37 = .ok (.astore 4, 2) := by decide +kernel
theorem dX9_print_39 : decode cX9_print 39 = .ok (.aload 4, 2) := by decide +kernel
theorem dX9_print_41 : decode cX9_print 41 = .ok (.getfield 288, 3) := by decide +kernel
theorem dX9_print_44 : decode cX9_print 44 = .ok (.iconst (-1), 1) := by decide +kernel
theorem dX9_print_45 : decode cX9_print 45 = .ok (.if_icmp .ne 7, 3) := by decide +kernel
theorem dX9_print_48 : decode cX9_print 48 = .ok (.ldc_w 291, 3) := by decide +kernel
theorem dX9_print_51 : decode cX9_print 51 = .ok (.ireturn, 1) := by decide +kernel
theorem dX9_print_52 : decode cX9_print 52 = .ok (.aload 4, 2) := by decide +kernel
theorem dX9_print_54 : decode cX9_print 54 = .ok (.invokevirtual 299, 3) := by decide +kernel
theorem dX9_print_57 : decode cX9_print 57 = .ok (.istore 5, 2) := by decide +kernel
theorem dX9_print_59 : decode cX9_print 59 = .ok (.aload_n 0, 1) := by decide +kernel
theorem dX9_print_60 : decode cX9_print 60 = .ok (.getfield 10, 3) := by decide +kernel
theorem dX9_print_63 : decode cX9_print 63 = .ok (.getfield 49, 3) := by decide +kernel
theorem dX9_print_66 : decode cX9_print 66 = .ok (.getfield 75, 3) := by decide +kernel
theorem dX9_print_69 : decode cX9_print 69 = .ok (.iload 5, 2) := by decide +kernel
theorem dX9_print_71 : decode cX9_print 71 = .ok (.iadd, 1) := by decide +kernel
theorem dX9_print_72 : decode cX9_print 72 = .ok (.bipush 40, 2) := by decide +kernel
theorem dX9_print_74 : decode cX9_print 74 = .ok (.if_icmp .le 6, 3) := by decide +kernel
theorem dX9_print_77 : decode cX9_print 77 = .ok (.ldc 79, 2) := by decide +kernel
theorem dX9_print_79 : decode cX9_print 79 = .ok (.ireturn, 1) := by decide +kernel
theorem dX9_print_80 : decode cX9_print 80 = .ok (.iconst 0, 1) := by decide +kernel
theorem dX9_print_81 : decode cX9_print 81 = .ok (.istore 6, 2) := by decide +kernel
theorem dX9_print_83 : decode cX9_print 83 = .ok (.iload 6, 2) := by decide +kernel
theorem dX9_print_85 : decode cX9_print 85 = .ok (.iload 5, 2) := by decide +kernel
theorem dX9_print_87 : decode cX9_print 87 = .ok (.if_icmp .ge 32, 3) := by decide +kernel
theorem dX9_print_90 : decode cX9_print 90 = .ok (.aload_n 0, 1) := by decide +kernel
theorem dX9_print_91 : decode cX9_print 91 = .ok (.getfield 10, 3) := by decide +kernel
theorem dX9_print_94 : decode cX9_print 94 = .ok (.getfield 49, 3) := by decide +kernel
theorem dX9_print_97 : decode cX9_print 97 = .ok (.iload_n 1, 1) := by decide +kernel
theorem dX9_print_98 : decode cX9_print 98 = .ok (.iconst 1, 1) := by decide +kernel
theorem dX9_print_99 : decode cX9_print 99 = .ok (.aload 4, 2) := by decide +kernel
theorem dX9_print_101 : decode cX9_print 101 = .ok (.getfield 294, 3) := by decide +kernel
theorem dX9_print_104 : decode cX9_print 104 = .ok (.iload 6, 2) := by decide +kernel
theorem dX9_print_106 : decode cX9_print 106 = .ok (.iaload, 1) := by decide +kernel
theorem dX9_print_107 : decode cX9_print 107 = .ok (.iload_n 3, 1) := by decide +kernel
theorem dX9_print_108 : decode cX9_print 108 = .ok (.iconst (-1), 1) := by decide +kernel
theorem dX9_print_109 : decode cX9_print 109 = .ok (.invokevirtual 80, 3) := by decide +kernel
theorem dX9_print_112 : decode cX9_print 112 = .ok (.pop, 1) := by decide +kernel
theorem dX9_print_113 : decode cX9_print 113 = .ok (.iinc 6 1, 3) := by decide +kernel
theorem dX9_print_116 : decode cX9_print 116 = .ok (.goto (-33), 3) := by decide +kernel
theorem dX9_print_119 : decode cX9_print 119 = .ok (.iload 5, 2) := by decide +kernel
theorem dX9_print_121 : decode cX9_print 121 = .ok (.ireturn, 1) := by decide +kernel
theorem dX9_copy_0 : decode cX9_copy 0 = .ok (.iload_n 1, 1) := by decide +kernel
theorem dX9_copy_1 : decode cX9_copy 1 = .ok (.invokestatic 281, 3) := by decide +kernel
theorem dX9_copy_4 : decode cX9_copy 4 = .ok (.ifCond .eq 10, 3) := by decide +kernel
theorem dX9_copy_7 : decode cX9_copy 7 = .ok (.iload_n 3, 1) := by decide +kernel
theorem dX9_copy_8 : decode cX9_copy 8 = .ok (.invokestatic 281, 3) := by decide +kernel
theorem dX9_copy_11 : decode cX9_copy 11 = .ok (.ifCond .ne 6, 3) := by decide +kernel
theorem dX9_copy_14 : decode cX9_copy 14 = .ok (.ldc 48, 2) := by decide +kernel
theorem dX9_copy_16 : decode cX9_copy 16 = .ok (.ireturn, 1) := by decide +kernel
theorem dX9_copy_17 : decode cX9_copy 17 = .ok (.aload_n 0, 1) := by decide +kernel
theorem dX9_copy_18 : decode cX9_copy 18 = .ok (.getfield 32, 3) := by decide +kernel
theorem dX9_copy_21 : decode cX9_copy 21 = .ok (.iload_n 1, 1) := by decide +kernel
theorem dX9_copy_22 : decode cX9_copy 22 = .ok (.aaload, 1) := by decide +kernel
theorem dX9_copy_23 : decode cX9_copy 23 = .ok (.astore 6, 2) := by decide +kernel
theorem dX9_copy_25 : decode cX9_copy 25 = .ok (.aload_n 0, 1) := by decide +kernel
theorem dX9_copy_26 : decode cX9_copy 26 = .ok (.getfield 32, 3) := by decide +kernel
theorem dX9_copy_29 : decode cX9_copy 29 = .ok (.iload_n 3, 1) := by decide +kernel
theorem dX9_copy_30 : decode cX9_copy 30 = .ok (.aaload, 1) := by decide +kernel
theorem dX9_copy_31 : decode cX9_copy 31 = .ok (.astore 7, 2) := by decide +kernel
theorem dX9_copy_33 : decode cX9_copy 33 = .ok (.aload 6, 2) := by decide +kernel
theorem dX9_copy_35 : decode cX9_copy 35 = .ok (.getfield 288, 3) := by decide +kernel
theorem dX9_copy_38 : decode cX9_copy 38 = .ok (.iconst (-1), 1) := by decide +kernel
theorem dX9_copy_39 : decode cX9_copy 39 = .ok (.if_icmp .eq 12, 3) := by decide +kernel
theorem dX9_copy_42 : decode cX9_copy 42 = .ok (.aload 7, 2) := by decide +kernel
theorem dX9_copy_44 : decode cX9_copy 44 = .ok (.getfield 288, 3) := by decide +kernel
theorem dX9_copy_47 : decode cX9_copy 47 = .ok (.iconst (-1), 1) := by decide +kernel
theorem dX9_copy_48 : decode cX9_copy 48 = .ok (.if_icmp .ne 7, 3) := by decide +kernel
theorem dX9_copy_51 : decode cX9_copy 51 = .ok (.ldc_w 291, 3) := by decide +kernel
theorem dX9_copy_54 : decode cX9_copy 54 = .ok (.ireturn, 1) := by decide +kernel
theorem dX9_copy_55 : decode cX9_copy 55 = .ok (.aload 6, 2) := by decide +kernel
theorem dX9_copy_57 : decode cX9_copy 57 = .ok (.getfield 288, 3) := by decide +kernel
theorem dX9_copy_60 : decode cX9_copy 60 = .ok (.aload 7, 2) := by decide +kernel
theorem dX9_copy_62 : decode cX9_copy 62 = .ok (.getfield 288, 3) := by decide +kernel
theorem dX9_copy_65 : decode cX9_copy 65 = .ok (.if_icmp .eq 6, 3) := by decide +kernel
theorem dX9_copy_68 : decode cX9_copy 68 = .ok (.ldc 129, 2) := by decide +kernel
theorem dX9_copy_70 : decode cX9_copy 70 = .ok (.ireturn, 1) := by decide +kernel
theorem dX9_copy_71 : decode cX9_copy 71 = .ok (.aload 6, 2) := by decide +kernel
theorem dX9_copy_73 : decode cX9_copy 73 = .ok (.iload_n 2, 1) := by decide +kernel
theorem dX9_copy_74 : decode cX9_copy 74 = .ok (.iload 5, 2) := by decide +kernel
theorem dX9_copy_76 : decode cX9_copy 76 = .ok (.invokevirtual 303, 3) := by decide +kernel
theorem dX9_copy_79 : decode cX9_copy 79 = .ok (.ifCond .eq 15, 3) := by decide +kernel
theorem dX9_copy_82 : decode cX9_copy 82 = .ok (.aload 7, 2) := by decide +kernel
theorem dX9_copy_84 : decode cX9_copy 84 = .ok (.iload 4, 2) := by decide +kernel
theorem dX9_copy_86 : decode cX9_copy 86 = .ok (.iload 5, 2) := by decide +kernel
theorem dX9_copy_88 : decode cX9_copy 88 = .ok (.invokevirtual 303, 3) := by decide +kernel
theorem dX9_copy_91 : decode cX9_copy 91 = .ok (.ifCond .ne 7, 3) := by decide +kernel
theorem dX9_copy_94 : decode cX9_copy 94 = .ok (.ldc_w 293, 3) := by decide +kernel
theorem dX9_copy_97 : decode cX9_copy 97 = .ok (.ireturn, 1) := by decide +kernel
theorem dX9_copy_98 : decode cX9_copy 98 = .ok (.aload 6, 2) := by decide +kernel
theorem dX9_copy_100 : decode cX9_copy 100 = .ok (.getfield 294, 3) := by decide +kernel
theorem dX9_copy_103 : decode cX9_copy 103 = .ok (.iload_n 2, 1) := by decide +kernel
theorem dX9_copy_104 : decode cX9_copy 104 = .ok (.aload 7, 2) := by decide +kernel
theorem dX9_copy_106 : decode cX9_copy 106 = .ok (.getfield 294, 3) := by decide +kernel
theorem dX9_copy_109 : decode cX9_copy 109 = .ok (.iload 4, 2) := by decide +kernel
theorem dX9_copy_111 : decode cX9_copy 111 = .ok (.iload 5, 2) := by decide +kernel
theorem dX9_copy_113 : decode cX9_copy 113 = .ok (.invokestatic 306, 3) := by decide +kernel
theorem dX9_copy_116 : decode cX9_copy 116 = .ok (.iload 5, 2) := by decide +kernel
theorem dX9_copy_118 : decode cX9_copy 118 = .ok (.ireturn, 1) := by decide +kernel
theorem dX9_lay_0 : decode cX9_lay 0 = .ok (.iload_n 1, 1) := by decide +kernel
theorem dX9_lay_1 : decode cX9_lay 1 = .ok (.invokestatic 312, 3) := by decide +kernel
theorem dX9_lay_4 : decode cX9_lay 4 = .ok (.ifCond .eq 12, 3) := by decide +kernel
theorem dX9_lay_7 : decode cX9_lay 7 = .ok (.iload_n 2, 1) := by decide +kernel
theorem dX9_lay_8 : decode cX9_lay 8 = .ok (.iconst 0, 1) := by decide +kernel
theorem dX9_lay_9 : decode cX9_lay 9 = .ok (.iconst 3, 1) := by decide +kernel
theorem dX9_lay_10 : decode cX9_lay 10 = .ok (.invokestatic 44, 3) := by decide +kernel
theorem dX9_lay_13 : decode cX9_lay 13 = .ok (.ifCond .ne 6, 3) := by decide +kernel
theorem dX9_lay_16 : decode cX9_lay 16 = .ok (.ldc 48, 2) := by decide +kernel
theorem dX9_lay_18 : decode cX9_lay 18 = .ok (.ireturn, 1) := by decide +kernel
theorem dX9_lay_19 : decode cX9_lay 19 = .ok (.iload_n 2, 1) := by decide +kernel
theorem dX9_lay_20 : decode cX9_lay 20 = .ok (.iconst 1, 1) := by decide +kernel
theorem dX9_lay_21 : decode cX9_lay 21 = .ok (.if_icmp .ne 20, 3) := by decide +kernel
theorem dX9_lay_24 : decode cX9_lay 24 = .ok (.aload_n 0, 1) := by decide +kernel
theorem dX9_lay_25 : decode cX9_lay 25 = .ok (.getfield 10, 3) := by decide +kernel
theorem dX9_lay_28 : decode cX9_lay 28 = .ok (.getfield 49, 3) := by decide +kernel
theorem dX9_lay_31 : decode cX9_lay 31 = .ok (.iload_n 3, 1) := by decide +kernel
theorem dX9_lay_32 : decode cX9_lay 32 = .ok (.invokevirtual 69, 3) := by decide +kernel
theorem dX9_lay_35 : decode cX9_lay 35 = .ok (.ifCond .ne 6, 3) := by decide +kernel
theorem dX9_lay_38 : decode cX9_lay 38 = .ok (.ldc 48, 2) := by decide +kernel
theorem dX9_lay_40 : decode cX9_lay 40 = .ok (.ireturn, 1) := by decide +kernel
theorem dX9_lay_41 : decode cX9_lay 41 = .ok (.iload_n 2, 1) := by decide +kernel
theorem dX9_lay_42 : decode cX9_lay 42 = .ok (.iconst 2, 1) := by decide +kernel
theorem dX9_lay_43 : decode cX9_lay 43 = .ok (.if_icmp .ne 13, 3) := by decide +kernel
theorem dX9_lay_46 : decode cX9_lay 46 = .ok (.iload_n 3, 1) := by decide +kernel
theorem dX9_lay_47 : decode cX9_lay 47 = .ok (.invokestatic 281, 3) := by decide +kernel
theorem dX9_lay_50 : decode cX9_lay 50 = .ok (.ifCond .ne 6, 3) := by decide +kernel
theorem dX9_lay_53 : decode cX9_lay 53 = .ok (.ldc 48, 2) := by decide +kernel
theorem dX9_lay_55 : decode cX9_lay 55 = .ok (.ireturn, 1) := by decide +kernel
theorem dX9_lay_56 : decode cX9_lay 56 = .ok (.iload_n 2, 1) := by decide +kernel
theorem dX9_lay_57 : decode cX9_lay 57 = .ok (.iconst 2, 1) := by decide +kernel
theorem dX9_lay_58 : decode cX9_lay 58 = .ok (.if_icmp .ne 20, 3) := by decide +kernel
theorem dX9_lay_61 : decode cX9_lay 61 = .ok (.aload_n 0, 1) := by decide +kernel
theorem dX9_lay_62 : decode cX9_lay 62 = .ok (.getfield 32, 3) := by decide +kernel
theorem dX9_lay_65 : decode cX9_lay 65 = .ok (.iload_n 3, 1) := by decide +kernel
theorem dX9_lay_66 : decode cX9_lay 66 = .ok (.aaload, 1) := by decide +kernel
theorem dX9_lay_67 : decode cX9_lay 67 = .ok (.getfield 288, 3) := by decide +kernel
theorem dX9_lay_70 : decode cX9_lay 70 = .ok (.iconst (-1), 1) := by decide +kernel
theorem dX9_lay_71 : decode cX9_lay 71 = .ok (.if_icmp .ne 7, 3) := by decide +kernel
theorem dX9_lay_74 : decode cX9_lay 74 = .ok (.ldc_w 291, 3) := by decide +kernel
theorem dX9_lay_77 : decode cX9_lay 77 = .ok (.ireturn, 1) := by decide +kernel
theorem dX9_lay_78 : decode cX9_lay 78 = .ok (.aload_n 0, 1) := by decide +kernel
theorem dX9_lay_79 : decode cX9_lay 79 = .ok (.getfield 38, 3) := by decide +kernel
theorem dX9_lay_82 : decode cX9_lay 82 = .ok (.iload_n 1, 1) := by decide +kernel
theorem dX9_lay_83 : decode cX9_lay 83 = .ok (.aaload, 1) := by decide +kernel
theorem dX9_lay_84 : decode cX9_lay 84 = .ok (.astore 4, 2) := by decide +kernel
theorem dX9_lay_86 : decode cX9_lay 86 = .ok (.aload 4, 2) := by decide +kernel
theorem dX9_lay_88 : decode cX9_lay 88 = .ok (.getfield 315, 3) := by decide +kernel
theorem dX9_lay_91 : decode cX9_lay 91 = .ok (.istore 5, 2) := by decide +kernel
theorem dX9_lay_93 : decode cX9_lay 93 = .ok (.aload 4, 2) := by decide +kernel
theorem dX9_lay_95 : decode cX9_lay 95 = .ok (.iload_n 2, 1) := by decide +kernel
theorem dX9_lay_96 : decode cX9_lay 96 = .ok (.putfield 315, 3) := by decide +kernel
theorem dX9_lay_99 : decode cX9_lay 99 = .ok (.iload_n 2, 1) := by decide +kernel
theorem dX9_lay_100 : decode cX9_lay 100 = .ok (.iconst 1, 1) := by decide +kernel
theorem dX9_lay_101 : decode cX9_lay 101 = .ok (.if_icmp .ne 32, 3) := by decide +kernel
theorem dX9_lay_104 : decode cX9_lay 104 = .ok (.aload 4, 2) := by decide +kernel
theorem dX9_lay_106 : decode cX9_lay 106 = .ok (.aload_n 0, 1) := by decide +kernel
theorem dX9_lay_107 : decode cX9_lay 107 = .ok (.getfield 10, 3) := by decide +kernel
theorem dX9_lay_110 : decode cX9_lay 110 = .ok (.getfield 49, 3) := by decide +kernel
theorem dX9_lay_113 : decode cX9_lay 113 = .ok (.getfield 84, 3) := by decide +kernel
theorem dX9_lay_116 : decode cX9_lay 116 = .ok (.iload_n 3, 1) := by decide +kernel
theorem dX9_lay_117 : decode cX9_lay 117 = .ok (.iaload, 1) := by decide +kernel
theorem dX9_lay_118 : decode cX9_lay 118 = .ok (.aload_n 0, 1) := by decide +kernel
theorem dX9_lay_119 : decode cX9_lay 119 = .ok (.getfield 10, 3) := by decide +kernel
theorem dX9_lay_122 : decode cX9_lay 122 = .ok (.getfield 49, 3) := by decide +kernel
theorem dX9_lay_125 : decode cX9_lay 125 = .ok (.getfield 90, 3) := by decide +kernel
theorem dX9_lay_128 : decode cX9_lay 128 = .ok (.iload_n 3, 1) := by decide +kernel
theorem dX9_lay_129 : decode cX9_lay 129 = .ok (.iaload, 1) := by decide +kernel
theorem dX9_lay_130 : decode cX9_lay 130 = .ok (.invokevirtual 318, 3) := by decide +kernel
theorem dX9_lay_133 : decode cX9_lay 133 = .ok (.iload_n 2, 1) := by decide +kernel
theorem dX9_lay_134 : decode cX9_lay 134 = .ok (.iconst 2, 1) := by decide +kernel
theorem dX9_lay_135 : decode cX9_lay 135 = .ok (.if_icmp .ne 17, 3) := by decide +kernel
theorem dX9_lay_138 : decode cX9_lay 138 = .ok (.aload 4, 2) := by decide +kernel
theorem dX9_lay_140 : decode cX9_lay 140 = .ok (.getfield 321, 3) := by decide +kernel
theorem dX9_lay_143 : decode cX9_lay 143 = .ok (.aload_n 0, 1) := by decide +kernel
theorem dX9_lay_144 : decode cX9_lay 144 = .ok (.getfield 32, 3) := by decide +kernel
theorem dX9_lay_147 : decode cX9_lay 147 = .ok (.iload_n 3, 1) := by decide +kernel
theorem dX9_lay_148 : decode cX9_lay 148 = .ok (.aaload, 1) := by decide +kernel
theorem dX9_lay_149 : decode cX9_lay 149 = .ok (.invokevirtual 325, 3) := by decide +kernel
theorem dX9_lay_152 : decode cX9_lay 152 = .ok (.iload_n 2, 1) := by decide +kernel
theorem dX9_lay_153 : decode cX9_lay 153 = .ok (.iconst 3, 1) := by decide +kernel
theorem dX9_lay_154 : decode cX9_lay 154 = .ok (.if_icmp .ne 9, 3) := by decide +kernel
theorem dX9_lay_157 : decode cX9_lay 157 = .ok (.aload 4, 2) := by decide +kernel
theorem dX9_lay_159 : decode cX9_lay 159 = .ok (.iload_n 3, 1) := by decide +kernel
theorem dX9_lay_160 : decode cX9_lay 160 = .ok (.putfield 329, 3) := by decide +kernel
theorem dX9_lay_163 : decode cX9_lay 163 = .ok (.iload 5, 2) := by decide +kernel
theorem dX9_lay_165 : decode cX9_lay 165 = .ok (.ireturn, 1) := by decide +kernel
theorem dX9_ask_0 : decode cX9_ask 0 = .ok (.iload_n 1, 1) := by decide +kernel
theorem dX9_ask_1 : decode cX9_ask 1 = .ok (.invokestatic 312, 3) := by decide +kernel
theorem dX9_ask_4 : decode cX9_ask 4 = .ok (.ifCond .eq 10, 3) := by decide +kernel
theorem dX9_ask_7 : decode cX9_ask 7 = .ok (.iload_n 2, 1) := by decide +kernel
theorem dX9_ask_8 : decode cX9_ask 8 = .ok (.invokestatic 63, 3) := by decide +kernel
theorem dX9_ask_11 : decode cX9_ask 11 = .ok (.ifCond .ne 6, 3) := by decide +kernel
theorem dX9_ask_14 : decode cX9_ask 14 = .ok (.ldc 48, 2) := by decide +kernel
theorem dX9_ask_16 : decode cX9_ask 16 = .ok (.ireturn, 1) := by decide +kernel
theorem dX9_ask_17 : decode cX9_ask 17 = .ok (.aload_n 0, 1) := by decide +kernel
theorem dX9_ask_18 : decode cX9_ask 18 = .ok (.getfield 38, 3) := by decide +kernel
theorem dX9_ask_21 : decode cX9_ask 21 = .ok (.iload_n 1, 1) := by decide +kernel
theorem dX9_ask_22 : decode cX9_ask 22 = .ok (.aaload, 1) := by decide +kernel
theorem dX9_ask_23 : decode cX9_ask 23 = .ok (.astore_n 3, 1) := by decide +kernel
theorem dX9_ask_24 : decode cX9_ask 24 = .ok (.aload_n 3, 1) := by decide +kernel
theorem dX9_ask_25 : decode cX9_ask 25 = .ok (.getfield 315, 3) := by decide +kernel
theorem dX9_ask_28 : decode cX9_ask 28 = .ok (.ifCond .ne 7, 3) := by decide +kernel
theorem dX9_ask_31 : decode cX9_ask 31 = .ok (.ldc_w 291, 3) := by decide +kernel
theorem dX9_ask_34 : decode cX9_ask 34 = .ok (.ireturn, 1) := by decide +kernel
theorem dX9_ask_35 : decode cX9_ask 35 = .ok (.aload_n 3, 1) := by decide +kernel
theorem dX9_ask_36 : decode cX9_ask 36 = .ok (.getfield 315, 3) := by decide +kernel
theorem dX9_ask_39 : decode cX9_ask 39 = .ok (.iconst 1, 1) := by decide +kernel
theorem dX9_ask_40 : decode cX9_ask 40 = .ok (.if_icmp .ne 14, 3) := by decide +kernel
theorem dX9_ask_43 : decode cX9_ask 43 = .ok (.aload_n 3, 1) := by decide +kernel
theorem dX9_ask_44 : decode cX9_ask 44 = .ok (.getfield 332, 3) := by decide +kernel
theorem dX9_ask_47 : decode cX9_ask 47 = .ok (.iload_n 2, 1) := by decide +kernel
theorem dX9_ask_48 : decode cX9_ask 48 = .ok (.invokestatic 126, 3) := by decide +kernel
theorem dX9_ask_51 : decode cX9_ask 51 = .ok (.ifCond .ne 6, 3) := by decide +kernel
theorem dX9_ask_54 : decode cX9_ask 54 = .ok (.ldc 129, 2) := by decide +kernel
theorem dX9_ask_56 : decode cX9_ask 56 = .ok (.ireturn, 1) := by decide +kernel
theorem dX9_ask_57 : decode cX9_ask 57 = .ok (.aload_n 3, 1) := by decide +kernel
theorem dX9_ask_58 : decode cX9_ask 58 = .ok (.getfield 332, 3) := by decide +kernel
theorem dX9_ask_61 : decode cX9_ask 61 = .ok (.aload_n 3, 1) := by decide +kernel
theorem dX9_ask_62 : decode cX9_ask 62 = .ok (.getfield 334, 3) := by decide +kernel
theorem dX9_ask_65 : decode cX9_ask 65 = .ok (.invokestatic 101, 3) := by decide +kernel
theorem dX9_ask_68 : decode cX9_ask 68 = .ok (.ireturn, 1) := by decide +kernel
theorem dX9_item_0 : decode cX9_item 0 = .ok (.iload_n 1, 1) := by decide +kernel
theorem dX9_item_1 : decode cX9_item 1 = .ok (.invokestatic 312, 3) := by decide +kernel
theorem dX9_item_4 : decode cX9_item 4 = .ok (.ifCond .ne 6, 3) := by decide +kernel
theorem dX9_item_7 : decode cX9_item 7 = .ok (.ldc 48, 2) := by decide +kernel
theorem dX9_item_9 : decode cX9_item 9 = .ok (.ireturn, 1) := by decide +kernel
theorem dX9_item_10 : decode cX9_item 10 = .ok (.aload_n 0, 1) := by decide +kernel
theorem dX9_item_11 : decode cX9_item 11 = .ok (.getfield 38, 3) := by decide +kernel
theorem dX9_item_14 : decode cX9_item 14 = .ok (.iload_n 1, 1) := by decide +kernel
theorem dX9_item_15 : decode cX9_item 15 = .ok (.aaload, 1) := by decide +kernel
theorem dX9_item_16 : decode cX9_item 16 = .ok (.astore_n 3, 1) := by decide +kernel
theorem dX9_item_17 : decode cX9_item 17 = .ok (.aload_n 3, 1) := by decide +kernel
theorem dX9_item_18 : decode cX9_item 18 = .ok (.getfield 315, 3) := by decide +kernel
theorem dX9_item_21 : decode cX9_item 21 = .ok (.ifCond .ne 7, 3) := by decide +kernel
theorem dX9_item_24 : decode cX9_item 24 = .ok (.ldc_w 291, 3) := by decide +kernel
theorem dX9_item_27 : decode cX9_item 27 = .ok (.ireturn, 1) := by decide +kernel
theorem dX9_item_28 : decode cX9_item 28 = .ok (.aload_n 3, 1) := by decide +kernel
theorem dX9_item_29 : decode cX9_item 29 = .ok (.getfield 315, 3) := by decide +kernel
theorem dX9_item_32 : decode cX9_item 32 = .ok (.iconst 2, 1) := by decide +kernel
theorem dX9_item_33 : decode cX9_item 33 = .ok (.if_icmp .eq 6, 3) := by decide +kernel
theorem dX9_item_36 : decode cX9_item 36 = .ok (.ldc 129, 2) := by decide +kernel
theorem dX9_item_38 : decode cX9_item 38 = .ok (.ireturn, 1) := by decide +kernel
theorem dX9_item_39 : decode cX9_item 39 = .ok (.aload_n 3, 1) := by decide +kernel
theorem dX9_item_40 : decode cX9_item 40 = .ok (.getfield 321, 3) := by decide +kernel
theorem dX9_item_43 : decode cX9_item 43 = .ok (.iload_n 2, 1) := by decide +kernel
theorem dX9_item_44 : decode cX9_item 44 = .ok (.invokevirtual 292, 3) := by decide +kernel
theorem dX9_item_47 : decode cX9_item 47 = .ok (.ifCond .ne 7, 3) := by decide +kernel
theorem dX9_item_50 : decode cX9_item 50 = .ok (.ldc_w 293, 3) := by decide +kernel
theorem dX9_item_53 : decode cX9_item 53 = .ok (.ireturn, 1) := by decide +kernel
theorem dX9_item_54 : decode cX9_item 54 = .ok (.aload_n 3, 1) := by decide +kernel
theorem dX9_item_55 : decode cX9_item 55 = .ok (.getfield 321, 3) := by decide +kernel
theorem dX9_item_58 : decode cX9_item 58 = .ok (.getfield 294, 3) := by decide +kernel
theorem dX9_item_61 : decode cX9_item 61 = .ok (.iload_n 2, 1) := by decide +kernel
theorem dX9_item_62 : decode cX9_item 62 = .ok (.iaload, 1) := by decide +kernel
theorem dX9_item_63 : decode cX9_item 63 = .ok (.ldc 96, 2) := by decide +kernel
theorem dX9_item_65 : decode cX9_item 65 = .ok (.if_icmp .ne 8, 3) := by decide +kernel
theorem dX9_item_68 : decode cX9_item 68 = .ok (.ldc 129, 2) := by decide +kernel
theorem dX9_item_70 : decode cX9_item 70 = .ok (.goto 12, 3) := by decide +kernel
theorem dX9_item_73 : decode cX9_item 73 = .ok (.aload_n 3, 1) := by decide +kernel
theorem dX9_item_74 : decode cX9_item 74 = .ok (.getfield 321, 3) := by decide +kernel
theorem dX9_item_77 : decode cX9_item 77 = .ok (.getfield 294, 3) := by decide +kernel
theorem dX9_item_80 : decode cX9_item 80 = .ok (.iload_n 2, 1) := by decide +kernel
theorem dX9_item_81 : decode cX9_item 81 = .ok (.iaload, 1) := by decide +kernel
theorem dX9_item_82 : decode cX9_item 82 = .ok (.ireturn, 1) := by decide +kernel
theorem dX9_rest_0 : decode cX9_rest 0 = .ok (.iload_n 1, 1) := by decide +kernel
theorem dX9_rest_1 : decode cX9_rest 1 = .ok (.invokestatic 312, 3) := by decide +kernel
theorem dX9_rest_4 : decode cX9_rest 4 = .ok (.ifCond .ne 6, 3) := by decide +kernel
theorem dX9_rest_7 : decode cX9_rest 7 = .ok (.ldc 48, 2) := by decide +kernel
theorem dX9_rest_9 : decode cX9_rest 9 = .ok (.ireturn, 1) := by decide +kernel
theorem dX9_rest_10 : decode cX9_rest 10 = .ok (.aload_n 0, 1) := by decide +kernel
theorem dX9_rest_11 : decode cX9_rest 11 = .ok (.getfield 38, 3) := by decide +kernel
theorem dX9_rest_14 : decode cX9_rest 14 = .ok (.iload_n 1, 1) := by decide +kernel
theorem dX9_rest_15 : decode cX9_rest 15 = .ok (.aaload, 1) := by decide +kernel
theorem dX9_rest_16 : decode cX9_rest 16 = .ok (.astore_n 3, 1) := by decide +kernel
theorem dX9_rest_17 : decode cX9_rest 17 = .ok (.aload_n 3, 1) := by decide +kernel
theorem dX9_rest_18 : decode cX9_rest 18 = .ok (.getfield 315, 3) := by decide +kernel
theorem dX9_rest_21 : decode cX9_rest 21 = .ok (.ifCond .ne 7, 3) := by decide +kernel
theorem dX9_rest_24 : decode cX9_rest 24 = .ok (.ldc_w 291, 3) := by decide +kernel
theorem dX9_rest_27 : decode cX9_rest 27 = .ok (.ireturn, 1) := by decide +kernel
theorem dX9_rest_28 : decode cX9_rest 28 = .ok (.aload_n 3, 1) := by decide +kernel
theorem dX9_rest_29 : decode cX9_rest 29 = .ok (.getfield 315, 3) := by decide +kernel
theorem dX9_rest_32 : decode cX9_rest 32 = .ok (.iconst 3, 1) := by decide +kernel
theorem dX9_rest_33 : decode cX9_rest 33 = .ok (.if_icmp .eq 6, 3) := by decide +kernel
theorem dX9_rest_36 : decode cX9_rest 36 = .ok (.ldc 129, 2) := by decide +kernel
theorem dX9_rest_38 : decode cX9_rest 38 = .ok (.ireturn, 1) := by decide +kernel
theorem dX9_rest_39 : decode cX9_rest 39 = .ok (.iload_n 2, 1) := by decide +kernel
theorem dX9_rest_40 : decode cX9_rest 40 = .ok (.ifCond .ne 6, 3) := by decide +kernel
theorem dX9_rest_43 : decode cX9_rest 43 = .ok (.ldc 163, 2) := by decide +kernel
theorem dX9_rest_45 : decode cX9_rest 45 = .ok (.ireturn, 1) := by decide +kernel
theorem dX9_rest_46 : decode cX9_rest 46 = .ok (.aload_n 3, 1) := by decide +kernel
theorem dX9_rest_47 : decode cX9_rest 47 = .ok (.getfield 329, 3) := by decide +kernel
theorem dX9_rest_50 : decode cX9_rest 50 = .ok (.iload_n 2, 1) := by decide +kernel
theorem dX9_rest_51 : decode cX9_rest 51 = .ok (.irem, 1) := by decide +kernel
theorem dX9_rest_52 : decode cX9_rest 52 = .ok (.ireturn, 1) := by decide +kernel
theorem dX9_tell_0 : decode cX9_tell 0 = .ok (.aload_n 0, 1) := by decide +kernel
theorem dX9_tell_1 : decode cX9_tell 1 = .ok (.getfield 336, 3) := by decide +kernel
theorem dX9_tell_4 : decode cX9_tell 4 = .ok (.bipush 60, 2) := by decide +kernel
theorem dX9_tell_6 : decode cX9_tell 6 = .ok (.if_icmp .lt 6, 3) := by decide +kernel
theorem dX9_tell_9 : decode cX9_tell 9 = .ok (.ldc 79, 2) := by decide +kernel
theorem dX9_tell_11 : decode cX9_tell 11 = .ok (.ireturn, 1) := by decide +kernel
theorem dX9_tell_12 : decode cX9_tell 12 = .ok (.aload_n 0, 1) := by decide +kernel
theorem dX9_tell_13 : decode cX9_tell 13 = .ok (.getfield 26, 3) := by decide +kernel
theorem dX9_tell_16 : decode cX9_tell 16 = .ok (.aload_n 0, 1) := by decide +kernel
theorem dX9_tell_17 : decode cX9_tell 17 = .ok (.getfield 336, 3) := by decide +kernel
theorem dX9_tell_20 : decode cX9_tell 20 = .ok (.iload_n 1, 1) := by decide +kernel
theorem dX9_tell_21 : decode cX9_tell 21 = .ok (.iastore, 1) := by decide +kernel
theorem dX9_tell_22 : decode cX9_tell 22 = .ok (.aload_n 0, 1) := by decide +kernel
theorem dX9_tell_23 : decode cX9_tell 23 = .ok (.dup, 1) := by decide +kernel
theorem dX9_tell_24 : decode cX9_tell 24 = .ok (.getfield 336, 3) := by decide +kernel
theorem dX9_tell_27 : decode cX9_tell 27 = .ok (.iconst 1, 1) := by decide +kernel
theorem dX9_tell_28 : decode cX9_tell 28 = .ok (.iadd, 1) := by decide +kernel
theorem dX9_tell_29 : decode cX9_tell 29 = .ok (.putfield 336, 3) := by decide +kernel
theorem dX9_tell_32 : decode cX9_tell 32 = .ok (.aload_n 0, 1) := by decide +kernel
theorem dX9_tell_33 : decode cX9_tell 33 = .ok (.getfield 336, 3) := by decide +kernel
theorem dX9_tell_36 : decode cX9_tell 36 = .ok (.ireturn, 1) := by decide +kernel
theorem dX9_check_0 : decode cX9_check 0 = .ok (.aload_n 0, 1) := by decide +kernel
theorem dX9_check_1 : decode cX9_check 1 = .ok (.getfield 336, 3) := by decide +kernel
theorem dX9_check_4 : decode cX9_check 4 = .ok (.istore_n 3, 1) := by decide +kernel
theorem dX9_check_5 : decode cX9_check 5 = .ok (.aload_n 0, 1) := by decide +kernel
theorem dX9_check_6 : decode cX9_check 6 = .ok (.iconst 0, 1) := by decide +kernel
theorem dX9_check_7 : decode cX9_check 7 = .ok (.putfield 336, 3) := by decide +kernel
theorem dX9_check_10 : decode cX9_check 10 = .ok (.iload_n 1, 1) := by decide +kernel
theorem dX9_check_11 : decode cX9_check 11 = .ok (.invokestatic 274, 3) := by decide +kernel
theorem dX9_check_14 : decode cX9_check 14 = .ok (.ifCond .eq 10, 3) := by decide +kernel
theorem dX9_check_17 : decode cX9_check 17 = .ok (.iload_n 2, 1) := by decide +kernel
theorem dX9_check_18 : decode cX9_check 18 = .ok (.invokestatic 66, 3) := by decide +kernel
theorem dX9_check_21 : decode cX9_check 21 = .ok (.ifCond .ne 6, 3) := by decide +kernel
theorem dX9_check_24 : decode cX9_check 24 = .ok (.ldc 48, 2) := by decide +kernel
theorem dX9_check_26 : decode cX9_check 26 = .ok (.ireturn, 1) := by decide +kernel
theorem dX9_check_27 : decode cX9_check 27 = .ok (.aload_n 0, 1) := by decide +kernel
theorem dX9_check_28 : decode cX9_check 28 = .ok (.getfield 339, 3) := by decide +kernel
theorem dX9_check_31 : decode cX9_check 31 = .ok (.ifCond .ne 6, 3) := by decide +kernel
theorem dX9_check_34 : decode cX9_check 34 = .ok (.ldc 163, 2) := by decide +kernel
theorem dX9_check_36 : decode cX9_check 36 = .ok (.ireturn, 1) := by decide +kernel
theorem dX9_check_37 : decode cX9_check 37 = .ok (.aload_n 0, 1) := by decide +kernel
theorem dX9_check_38 : decode cX9_check 38 = .ok (.getfield 16, 3) := by decide +kernel
theorem dX9_check_41 : decode cX9_check 41 = .ok (.getfield 271, 3) := by decide +kernel
theorem dX9_check_44 : decode cX9_check 44 = .ok (.istore 4, 2) := by decide +kernel
theorem dX9_check_46 : decode cX9_check 46 = .ok (.aload_n 0, 1) := by decide +kernel
theorem dX9_check_47 : decode cX9_check 47 = .ok (.getfield 16, 3) := by decide +kernel
theorem dX9_check_50 : decode cX9_check 50 = .ok (.iload_n 1, 1) := by decide +kernel
theorem dX9_check_51 : decode cX9_check 51 = .ok (.iload_n 2, 1) := by decide +kernel
theorem dX9_check_52 : decode cX9_check 52 = .ok (.invokevirtual 277, 3) := by decide +kernel
theorem dX9_check_55 : decode cX9_check 55 = .ok (.aload_n 0, 1) := by decide +kernel
theorem dX9_check_56 : decode cX9_check 56 = .ok (.getfield 16, 3) := by decide +kernel
theorem dX9_check_59 : decode cX9_check 59 = .ok (.iload 4, 2) := by decide +kernel
theorem dX9_check_61 : decode cX9_check 61 = .ok (.putfield 271, 3) := by decide +kernel
theorem dX9_check_64 : decode cX9_check 64 = .ok (.iconst 0, 1) := by decide +kernel
theorem dX9_check_65 : decode cX9_check 65 = .ok (.istore 5, 2) := by decide +kernel
theorem dX9_check_67 : decode cX9_check 67 = .ok (.iload 5, 2) := by decide +kernel
theorem dX9_check_69 : decode cX9_check 69 = .ok (.iload_n 1, 1) := by decide +kernel
theorem dX9_check_70 : decode cX9_check 70 = .ok (.if_icmp .ge 35, 3) := by decide +kernel
theorem dX9_check_73 : decode cX9_check 73 = .ok (.iload 5, 2) := by decide +kernel
theorem dX9_check_75 : decode cX9_check 75 = .ok (.iload_n 3, 1) := by decide +kernel
theorem dX9_check_76 : decode cX9_check 76 = .ok (.if_icmp .ge 29, 3) := by decide +kernel
theorem dX9_check_79 : decode cX9_check 79 = .ok (.aload_n 0, 1) := by decide +kernel
theorem dX9_check_80 : decode cX9_check 80 = .ok (.getfield 26, 3) := by decide +kernel
theorem dX9_check_83 : decode cX9_check 83 = .ok (.iload 5, 2) := by decide +kernel
theorem dX9_check_85 : decode cX9_check 85 = .ok (.iaload, 1) := by decide +kernel
theorem dX9_check_86 : decode cX9_check 86 = .ok (.aload_n 0, 1) := by decide +kernel
theorem dX9_check_87 : decode cX9_check 87 = .ok (.getfield 16, 3) := by decide +kernel
theorem dX9_check_90 : decode cX9_check 90 = .ok (.getfield 176, 3) := by decide +kernel
theorem dX9_check_93 : decode cX9_check 93 = .ok (.iload 5, 2) := by decide +kernel
theorem dX9_check_95 : decode cX9_check 95 = .ok (.iaload, 1) := by decide +kernel
theorem dX9_check_96 : decode cX9_check 96 = .ok (.if_icmp .ne 9, 3) := by decide +kernel
theorem dX9_check_99 : decode cX9_check 99 = .ok (.iinc 5 1, 3) := by decide +kernel
theorem dX9_check_102 : decode cX9_check 102 = .ok (.goto (-35), 3) := by decide +kernel
theorem dX9_check_105 : decode cX9_check 105 = .ok (.iload 5, 2) := by decide +kernel
theorem dX9_check_107 : decode cX9_check 107 = .ok (.iload_n 1, 1) := by decide +kernel
theorem dX9_check_108 : decode cX9_check 108 = .ok (.if_icmp .ne 13, 3) := by decide +kernel
theorem dX9_check_111 : decode cX9_check 111 = .ok (.iload 5, 2) := by decide +kernel
theorem dX9_check_113 : decode cX9_check 113 = .ok (.iload_n 3, 1) := by decide +kernel
theorem dX9_check_114 : decode cX9_check 114 = .ok (.if_icmp .ne 7, 3) := by decide +kernel
theorem dX9_check_117 : decode cX9_check 117 = .ok (.iconst 0, 1) := by decide +kernel
theorem dX9_check_118 : decode cX9_check 118 = .ok (.goto 7, 3) := by decide +kernel
theorem dX9_check_121 : decode cX9_check 121 = .ok (.iconst 1, 1) := by decide +kernel
theorem dX9_check_122 : decode cX9_check 122 = .ok (.iload 5, 2) := by decide +kernel
theorem dX9_check_124 : decode cX9_check 124 = .ok (.iadd, 1) := by decide +kernel
theorem dX9_check_125 : decode cX9_check 125 = .ok (.ireturn, 1) := by decide +kernel
theorem dX9_keep_0 : decode cX9_keep 0 = .ok (.aload_n 0, 1) := by decide +kernel
theorem dX9_keep_1 : decode cX9_keep 1 = .ok (.getfield 16, 3) := by decide +kernel
theorem dX9_keep_4 : decode cX9_keep 4 = .ok (.aload_n 0, 1) := by decide +kernel
theorem dX9_keep_5 : decode cX9_keep 5 = .ok (.getfield 10, 3) := by decide +kernel
theorem dX9_keep_8 : decode cX9_keep 8 = .ok (.invokevirtual 343, 3) := by decide +kernel
theorem dX9_keep_11 : decode cX9_keep 11 = .ok (.aload_n 0, 1) := by decide +kernel
theorem dX9_keep_12 : decode cX9_keep 12 = .ok (.iconst 1, 1) := by decide +kernel
theorem dX9_keep_13 : decode cX9_keep 13 = .ok (.putfield 339, 3) := by decide +kernel
theorem dX9_keep_16 : decode cX9_keep 16 = .ok (.aload_n 0, 1) := by decide +kernel
theorem dX9_keep_17 : decode cX9_keep 17 = .ok (.getfield 10, 3) := by decide +kernel
theorem dX9_keep_20 : decode cX9_keep 20 = .ok (.getfield 49, 3) := by decide +kernel
theorem dX9_keep_23 : decode cX9_keep 23 = .ok (.getfield 75, 3) := by decide +kernel
theorem dX9_keep_26 : decode cX9_keep 26 = .ok (.ireturn, 1) := by decide +kernel
theorem dX9_back_0 : decode cX9_back 0 = .ok (.aload_n 0, 1) := by decide +kernel
theorem dX9_back_1 : decode cX9_back 1 = .ok (.getfield 339, 3) := by decide +kernel
theorem dX9_back_4 : decode cX9_back 4 = .ok (.ifCond .ne 6, 3) := by decide +kernel
theorem dX9_back_7 : decode cX9_back 7 = .ok (.ldc 163, 2) := by decide +kernel
theorem dX9_back_9 : decode cX9_back 9 = .ok (.ireturn, 1) := by decide +kernel
theorem dX9_back_10 : decode cX9_back 10 = .ok (.aload_n 0, 1) := by decide +kernel
theorem dX9_back_11 : decode cX9_back 11 = .ok (.getfield 10, 3) := by decide +kernel
theorem dX9_back_14 : decode cX9_back 14 = .ok (.aload_n 0, 1) := by decide +kernel
theorem dX9_back_15 : decode cX9_back 15 = .ok (.getfield 16, 3) := by decide +kernel
theorem dX9_back_18 : decode cX9_back 18 = .ok (.invokevirtual 343, 3) := by decide +kernel
theorem dX9_back_21 : decode cX9_back 21 = .ok (.aload_n 0, 1) := by decide +kernel
theorem dX9_back_22 : decode cX9_back 22 = .ok (.getfield 10, 3) := by decide +kernel
theorem dX9_back_25 : decode cX9_back 25 = .ok (.getfield 49, 3) := by decide +kernel
theorem dX9_back_28 : decode cX9_back 28 = .ok (.getfield 75, 3) := by decide +kernel
theorem dX9_back_31 : decode cX9_back 31 = .ok (.ireturn, 1) := by decide +kernel
theorem dX9_count_0 : decode cX9_count 0 = .ok (.iload_n 1, 1) := by decide +kernel
theorem dX9_count_1 : decode cX9_count 1 = .ok (.tableswitch 177 0 11 #[63, 74, 85, 93, 104, 115, 123, 134, 145, 156, 161, 169], 63) := by decide +kernel
theorem dX9_count_64 : decode cX9_count 64 = .ok (.aload_n 0, 1) := by decide +kernel
theorem dX9_count_65 : decode cX9_count 65 = .ok (.getfield 10, 3) := by decide +kernel
theorem dX9_count_68 : decode cX9_count 68 = .ok (.getfield 49, 3) := by decide +kernel
theorem dX9_count_71 : decode cX9_count 71 = .ok (.getfield 237, 3) := by decide +kernel
theorem dX9_count_74 : decode cX9_count 74 = .ok (.ireturn, 1) := by decide +kernel
theorem dX9_count_75 : decode cX9_count 75 = .ok (.aload_n 0, 1) := by decide +kernel
theorem dX9_count_76 : decode cX9_count 76 = .ok (.getfield 10, 3) := by decide +kernel
theorem dX9_count_79 : decode cX9_count 79 = .ok (.getfield 49, 3) := by decide +kernel
theorem dX9_count_82 : decode cX9_count 82 = .ok (.getfield 75, 3) := by decide +kernel
theorem dX9_count_85 : decode cX9_count 85 = .ok (.ireturn, 1) := by decide +kernel
theorem dX9_count_86 : decode cX9_count 86 = .ok (.aload_n 0, 1) := by decide +kernel
theorem dX9_count_87 : decode cX9_count 87 = .ok (.getfield 10, 3) := by decide +kernel
theorem dX9_count_90 : decode cX9_count 90 = .ok (.invokevirtual 346, 3) := by decide +kernel
theorem dX9_count_93 : decode cX9_count 93 = .ok (.ireturn, 1) := by decide +kernel
theorem dX9_count_94 : decode cX9_count 94 = .ok (.aload_n 0, 1) := by decide +kernel
theorem dX9_count_95 : decode cX9_count 95 = .ok (.getfield 10, 3) := by decide +kernel
theorem dX9_count_98 : decode cX9_count 98 = .ok (.getfield 49, 3) := by decide +kernel
theorem dX9_count_101 : decode cX9_count 101 = .ok (.invokevirtual 349, 3) := by decide +kernel
theorem dX9_count_104 : decode cX9_count 104 = .ok (.ireturn, 1) := by decide +kernel
theorem dX9_count_105 : decode cX9_count 105 = .ok (.aload_n 0, 1) := by decide +kernel
theorem dX9_count_106 : decode cX9_count 106 = .ok (.getfield 10, 3) := by decide +kernel
theorem dX9_count_109 : decode cX9_count 109 = .ok (.getfield 143, 3) := by decide +kernel
theorem dX9_count_112 : decode cX9_count 112 = .ok (.getfield 152, 3) := by decide +kernel
theorem dX9_count_115 : decode cX9_count 115 = .ok (.ireturn, 1) := by decide +kernel
theorem dX9_count_116 : decode cX9_count 116 = .ok (.aload_n 0, 1) := by decide +kernel
theorem dX9_count_117 : decode cX9_count 117 = .ok (.getfield 10, 3) := by decide +kernel
theorem dX9_count_120 : decode cX9_count 120 = .ok (.getfield 200, 3) := by decide +kernel
theorem dX9_count_123 : decode cX9_count 123 = .ok (.ireturn, 1) := by decide +kernel
theorem dX9_count_124 : decode cX9_count 124 = .ok (.aload_n 0, 1) := by decide +kernel
theorem dX9_count_125 : decode cX9_count 125 = .ok (.getfield 10, 3) := by decide +kernel
theorem dX9_count_128 : decode cX9_count 128 = .ok (.getfield 215, 3) := by decide +kernel
theorem dX9_count_131 : decode cX9_count 131 = .ok (.getfield 352, 3) := by decide +kernel
theorem dX9_count_134 : decode cX9_count 134 = .ok (.ireturn, 1) := by decide +kernel
theorem dX9_count_135 : decode cX9_count 135 = .ok (.aload_n 0, 1) := by decide +kernel
theorem dX9_count_136 : decode cX9_count 136 = .ok (.getfield 10, 3) := by decide +kernel
theorem dX9_count_139 : decode cX9_count 139 = .ok (.getfield 233, 3) := by decide +kernel
theorem dX9_count_142 : decode cX9_count 142 = .ok (.getfield 243, 3) := by decide +kernel
theorem dX9_count_145 : decode cX9_count 145 = .ok (.ireturn, 1) := by decide +kernel
theorem dX9_count_146 : decode cX9_count 146 = .ok (.aload_n 0, 1) := by decide +kernel
theorem dX9_count_147 : decode cX9_count 147 = .ok (.getfield 10, 3) := by decide +kernel
theorem dX9_count_150 : decode cX9_count 150 = .ok (.getfield 233, 3) := by decide +kernel
theorem dX9_count_153 : decode cX9_count 153 = .ok (.getfield 265, 3) := by decide +kernel
theorem dX9_count_156 : decode cX9_count 156 = .ok (.ireturn, 1) := by decide +kernel
theorem dX9_count_157 : decode cX9_count 157 = .ok (.aload_n 0, 1) := by decide +kernel
theorem dX9_count_158 : decode cX9_count 158 = .ok (.getfield 336, 3) := by decide +kernel
theorem dX9_count_161 : decode cX9_count 161 = .ok (.ireturn, 1) := by decide +kernel
theorem dX9_count_162 : decode cX9_count 162 = .ok (.aload_n 0, 1) := by decide +kernel
theorem dX9_count_163 : decode cX9_count 163 = .ok (.getfield 22, 3) := by decide +kernel
theorem dX9_count_166 : decode cX9_count 166 = .ok (.getfield 133, 3) := by decide +kernel
theorem dX9_count_169 : decode cX9_count 169 = .ok (.ireturn, 1) := by decide +kernel
theorem dX9_count_170 : decode cX9_count 170 = .ok (.aload_n 0, 1) := by decide +kernel
theorem dX9_count_171 : decode cX9_count 171 = .ok (.getfield 10, 3) := by decide +kernel
theorem dX9_count_174 : decode cX9_count 174 = .ok (.getfield 271, 3) := by decide +kernel
theorem dX9_count_177 : decode cX9_count 177 = .ok (.ireturn, 1) := by decide +kernel
theorem dX9_count_178 : decode cX9_count 178 = .ok (.ldc 48, 2) := by decide +kernel
theorem dX9_count_180 : decode cX9_count 180 = .ok (.ireturn, 1) := by decide +kernel
theorem dX9_within_0 : decode cX9_within 0 = .ok (.iload_n 0, 1) := by decide +kernel
theorem dX9_within_1 : decode cX9_within 1 = .ok (.iload_n 1, 1) := by decide +kernel
theorem dX9_within_2 : decode cX9_within 2 = .ok (.if_icmp .lt 12, 3) := by decide +kernel
theorem dX9_within_5 : decode cX9_within 5 = .ok (.iload_n 0, 1) := by decide +kernel
theorem dX9_within_6 : decode cX9_within 6 = .ok (.iload_n 2, 1) := by decide +kernel
theorem dX9_within_7 : decode cX9_within 7 = .ok (.if_icmp .gt 7, 3) := by decide +kernel
theorem dX9_within_10 : decode cX9_within 10 = .ok (.iconst 1, 1) := by decide +kernel
theorem dX9_within_11 : decode cX9_within 11 = .ok (.goto 4, 3) := by decide +kernel
theorem dX9_within_14 : decode cX9_within 14 = .ok (.iconst 0, 1) := by decide +kernel
theorem dX9_within_15 : decode cX9_within 15 = .ok (.ireturn, 1) := by decide +kernel
theorem dX9_holdWithin_0 : decode cX9_holdWithin 0 = .ok (.iload_n 0, 1) := by decide +kernel
theorem dX9_holdWithin_1 : decode cX9_holdWithin 1 = .ok (.iload_n 1, 1) := by decide +kernel
theorem dX9_holdWithin_2 : decode cX9_holdWithin 2 = .ok (.if_icmp .ge 7, 3) := by decide +kernel
theorem dX9_holdWithin_5 : decode cX9_holdWithin 5 = .ok (.iload_n 1, 1) := by decide +kernel
theorem dX9_holdWithin_6 : decode cX9_holdWithin 6 = .ok (.goto 13, 3) := by decide +kernel
theorem dX9_holdWithin_9 : decode cX9_holdWithin 9 = .ok (.iload_n 0, 1) := by decide +kernel
theorem dX9_holdWithin_10 : decode cX9_holdWithin 10 = .ok (.iload_n 2, 1) := by decide +kernel
theorem dX9_holdWithin_11 : decode cX9_holdWithin 11 = .ok (.if_icmp .le 7, 3) := by decide +kernel
theorem dX9_holdWithin_14 : decode cX9_holdWithin 14 = .ok (.iload_n 2, 1) := by decide +kernel
theorem dX9_holdWithin_15 : decode cX9_holdWithin 15 = .ok (.goto 4, 3) := by decide +kernel
theorem dX9_holdWithin_18 : decode cX9_holdWithin 18 = .ok (.iload_n 0, 1) := by decide +kernel
theorem dX9_holdWithin_19 : decode cX9_holdWithin 19 = .ok (.ireturn, 1) := by decide +kernel
theorem dX9_isKind_0 : decode cX9_isKind 0 = .ok (.iload_n 0, 1) := by decide +kernel
theorem dX9_isKind_1 : decode cX9_isKind 1 = .ok (.iconst 0, 1) := by decide +kernel
theorem dX9_isKind_2 : decode cX9_isKind 2 = .ok (.bipush 7, 2) := by decide +kernel
theorem dX9_isKind_4 : decode cX9_isKind 4 = .ok (.invokestatic 44, 3) := by decide +kernel
theorem dX9_isKind_7 : decode cX9_isKind 7 = .ok (.ireturn, 1) := by decide +kernel
theorem dX9_arePairs_0 : decode cX9_arePairs 0 = .ok (.iload_n 0, 1) := by decide +kernel
theorem dX9_arePairs_1 : decode cX9_arePairs 1 = .ok (.iconst 1, 1) := by decide +kernel
theorem dX9_arePairs_2 : decode cX9_arePairs 2 = .ok (.sipush 999, 3) := by decide +kernel
theorem dX9_arePairs_5 : decode cX9_arePairs 5 = .ok (.invokestatic 44, 3) := by decide +kernel
theorem dX9_arePairs_8 : decode cX9_arePairs 8 = .ok (.ireturn, 1) := by decide +kernel
theorem dX9_arePlaces_0 : decode cX9_arePlaces 0 = .ok (.iload_n 0, 1) := by decide +kernel
theorem dX9_arePlaces_1 : decode cX9_arePlaces 1 = .ok (.iconst 1, 1) := by decide +kernel
theorem dX9_arePlaces_2 : decode cX9_arePlaces 2 = .ok (.iconst 4, 1) := by decide +kernel
theorem dX9_arePlaces_3 : decode cX9_arePlaces 3 = .ok (.invokestatic 44, 3) := by decide +kernel
theorem dX9_arePlaces_6 : decode cX9_arePlaces 6 = .ok (.ireturn, 1) := by decide +kernel
theorem dX9_areLandTables_0 : decode cX9_areLandTables 0 = .ok (.iload_n 0, 1) := by decide +kernel
theorem dX9_areLandTables_1 : decode cX9_areLandTables 1 = .ok (.iconst 2, 1) := by decide +kernel
theorem dX9_areLandTables_2 : decode cX9_areLandTables 2 = .ok (.bipush 12, 2) := by decide +kernel
theorem dX9_areLandTables_4 : decode cX9_areLandTables 4 = .ok (.invokestatic 44, 3) := by decide +kernel
theorem dX9_areLandTables_7 : decode cX9_areLandTables 7 = .ok (.ireturn, 1) := by decide +kernel
theorem dX9_isPlace_0 : decode cX9_isPlace 0 = .ok (.iload_n 0, 1) := by decide +kernel
theorem dX9_isPlace_1 : decode cX9_isPlace 1 = .ok (.iconst 0, 1) := by decide +kernel
theorem dX9_isPlace_2 : decode cX9_isPlace 2 = .ok (.iconst 5, 1) := by decide +kernel
theorem dX9_isPlace_3 : decode cX9_isPlace 3 = .ok (.invokestatic 44, 3) := by decide +kernel
theorem dX9_isPlace_6 : decode cX9_isPlace 6 = .ok (.ireturn, 1) := by decide +kernel
theorem dX9_isSheet_0 : decode cX9_isSheet 0 = .ok (.iload_n 0, 1) := by decide +kernel
theorem dX9_isSheet_1 : decode cX9_isSheet 1 = .ok (.iconst 0, 1) := by decide +kernel
theorem dX9_isSheet_2 : decode cX9_isSheet 2 = .ok (.iconst 3, 1) := by decide +kernel
theorem dX9_isSheet_3 : decode cX9_isSheet 3 = .ok (.invokestatic 44, 3) := by decide +kernel
theorem dX9_isSheet_6 : decode cX9_isSheet 6 = .ok (.ireturn, 1) := by decide +kernel
theorem dX9_isSlot_0 : decode cX9_isSlot 0 = .ok (.iload_n 0, 1) := by decide +kernel
theorem dX9_isSlot_1 : decode cX9_isSlot 1 = .ok (.iconst 0, 1) := by decide +kernel
theorem dX9_isSlot_2 : decode cX9_isSlot 2 = .ok (.iconst 4, 1) := by decide +kernel
theorem dX9_isSlot_3 : decode cX9_isSlot 3 = .ok (.invokestatic 44, 3) := by decide +kernel
theorem dX9_isSlot_6 : decode cX9_isSlot 6 = .ok (.ireturn, 1) := by decide +kernel
theorem dX9_lowBits_0 : decode cX9_lowBits 0 = .ok (.iconst 1, 1) := by decide +kernel
theorem dX9_lowBits_1 : decode cX9_lowBits 1 = .ok (.iload_n 0, 1) := by decide +kernel
theorem dX9_lowBits_2 : decode cX9_lowBits 2 = .ok (.ishl, 1) := by decide +kernel
theorem dX9_lowBits_3 : decode cX9_lowBits 3 = .ok (.iconst 1, 1) := by decide +kernel
theorem dX9_lowBits_4 : decode cX9_lowBits 4 = .ok (.isub, 1) := by decide +kernel
theorem dX9_lowBits_5 : decode cX9_lowBits 5 = .ok (.ireturn, 1) := by decide +kernel
theorem dX9_isOfKind_0 : decode cX9_isOfKind 0 = .ok (.iload_n 0, 1) := by decide +kernel
theorem dX9_isOfKind_1 : decode cX9_isOfKind 1 = .ok (.istore_n 2, 1) := by decide +kernel
theorem dX9_isOfKind_2 : decode cX9_isOfKind 2 = .ok (.iconst 0, 1) := by decide +kernel
theorem dX9_isOfKind_3 : decode cX9_isOfKind 3 = .ok (.istore_n 3, 1) := by decide +kernel
theorem dX9_isOfKind_4 : decode cX9_isOfKind 4 = .ok (.iload_n 3, 1) := by decide +kernel
theorem dX9_isOfKind_5 : decode cX9_isOfKind 5 = .ok (.bipush 7, 2) := by decide +kernel
theorem dX9_isOfKind_7 : decode cX9_isOfKind 7 = .ok (.if_icmp .gt 29, 3) := by decide +kernel
theorem dX9_isOfKind_10 : decode cX9_isOfKind 10 = .ok (.iload_n 2, 1) := by decide +kernel
theorem dX9_isOfKind_11 : decode cX9_isOfKind 11 = .ok (.invokestatic 63, 3) := by decide +kernel
theorem dX9_isOfKind_14 : decode cX9_isOfKind 14 = .ok (.ifCond .eq 22, 3) := by decide +kernel
theorem dX9_isOfKind_17 : decode cX9_isOfKind 17 = .ok (.iload_n 2, 1) := by decide +kernel
theorem dX9_isOfKind_18 : decode cX9_isOfKind 18 = .ok (.iload_n 1, 1) := by decide +kernel
theorem dX9_isOfKind_19 : decode cX9_isOfKind 19 = .ok (.if_icmp .ne 5, 3) := by decide +kernel
theorem dX9_isOfKind_22 : decode cX9_isOfKind 22 = .ok (.iconst 1, 1) := by decide +kernel
theorem dX9_isOfKind_23 : decode cX9_isOfKind 23 = .ok (.ireturn, 1) := by decide +kernel
theorem dX9_isOfKind_24 : decode cX9_isOfKind 24 = .ok (.getstatic 355, 3) := by decide +kernel
theorem dX9_isOfKind_27 : decode cX9_isOfKind 27 = .ok (.iload_n 2, 1) := by decide +kernel
theorem dX9_isOfKind_28 : decode cX9_isOfKind 28 = .ok (.iaload, 1) := by decide +kernel
theorem dX9_isOfKind_29 : decode cX9_isOfKind 29 = .ok (.istore_n 2, 1) := by decide +kernel
theorem dX9_isOfKind_30 : decode cX9_isOfKind 30 = .ok (.iinc 3 1, 3) := by decide +kernel
theorem dX9_isOfKind_33 : decode cX9_isOfKind 33 = .ok (.goto (-29), 3) := by decide +kernel
theorem dX9_isOfKind_36 : decode cX9_isOfKind 36 = .ok (.iconst 0, 1) := by decide +kernel
theorem dX9_isOfKind_37 : decode cX9_isOfKind 37 = .ok (.ireturn, 1) := by decide +kernel
theorem dX9_isUnkind_0 : decode cX9_isUnkind 0 = .ok (.iload_n 0, 1) := by decide +kernel
theorem dX9_isUnkind_1 : decode cX9_isUnkind 1 = .ok (.bipush 6, 2) := by decide +kernel
theorem dX9_isUnkind_3 : decode cX9_isUnkind 3 = .ok (.invokestatic 126, 3) := by decide +kernel
theorem dX9_isUnkind_6 : decode cX9_isUnkind 6 = .ok (.ireturn, 1) := by decide +kernel
theorem dX9_price_0 : decode cX9_price 0 = .ok (.iload_n 0, 1) := by decide +kernel
theorem dX9_price_1 : decode cX9_price 1 = .ok (.invokestatic 63, 3) := by decide +kernel
theorem dX9_price_4 : decode cX9_price 4 = .ok (.ifCond .ne 5, 3) := by decide +kernel
theorem dX9_price_7 : decode cX9_price 7 = .ok (.iconst 0, 1) := by decide +kernel
theorem dX9_price_8 : decode cX9_price 8 = .ok (.ireturn, 1) := by decide +kernel
theorem dX9_price_9 : decode cX9_price 9 = .ok (.iload_n 0, 1) := by decide +kernel
theorem dX9_price_10 : decode cX9_price 10 = .ok (.bipush 7, 2) := by decide +kernel
theorem dX9_price_12 : decode cX9_price 12 = .ok (.if_icmp .ne 16, 3) := by decide +kernel
theorem dX9_price_15 : decode cX9_price 15 = .ok (.getstatic 358, 3) := by decide +kernel
theorem dX9_price_18 : decode cX9_price 18 = .ok (.iload_n 0, 1) := by decide +kernel
theorem dX9_price_19 : decode cX9_price 19 = .ok (.iaload, 1) := by decide +kernel
theorem dX9_price_20 : decode cX9_price 20 = .ok (.iload_n 1, 1) := by decide +kernel
theorem dX9_price_21 : decode cX9_price 21 = .ok (.bipush 100, 2) := by decide +kernel
theorem dX9_price_23 : decode cX9_price 23 = .ok (.idiv, 1) := by decide +kernel
theorem dX9_price_24 : decode cX9_price 24 = .ok (.iadd, 1) := by decide +kernel
theorem dX9_price_25 : decode cX9_price 25 = .ok (.goto 8, 3) := by decide +kernel
theorem dX9_price_28 : decode cX9_price 28 = .ok (.getstatic 358, 3) := by decide +kernel
theorem dX9_price_31 : decode cX9_price 31 = .ok (.iload_n 0, 1) := by decide +kernel
theorem dX9_price_32 : decode cX9_price 32 = .ok (.iaload, 1) := by decide +kernel
theorem dX9_price_33 : decode cX9_price 33 = .ok (.ireturn, 1) := by decide +kernel
theorem dX9_reach_0 : decode cX9_reach 0 = .ok (.iload_n 2, 1) := by decide +kernel
theorem dX9_reach_1 : decode cX9_reach 1 = .ok (.invokestatic 170, 3) := by decide +kernel
theorem dX9_reach_4 : decode cX9_reach 4 = .ok (.ifCond .eq 11, 3) := by decide +kernel
theorem dX9_reach_7 : decode cX9_reach 7 = .ok (.getstatic 361, 3) := by decide +kernel
theorem dX9_reach_10 : decode cX9_reach 10 = .ok (.iload_n 2, 1) := by decide +kernel
theorem dX9_reach_11 : decode cX9_reach 11 = .ok (.iaload, 1) := by decide +kernel
theorem dX9_reach_12 : decode cX9_reach 12 = .ok (.goto 8, 3) := by decide +kernel
theorem dX9_reach_15 : decode cX9_reach 15 = .ok (.getstatic 361, 3) := by decide +kernel
theorem dX9_reach_18 : decode cX9_reach 18 = .ok (.iconst 0, 1) := by decide +kernel
theorem dX9_reach_19 : decode cX9_reach 19 = .ok (.iaload, 1) := by decide +kernel
theorem dX9_reach_20 : decode cX9_reach 20 = .ok (.istore 4, 2) := by decide +kernel
theorem dX9_reach_22 : decode cX9_reach 22 = .ok (.iconst 0, 1) := by decide +kernel
theorem dX9_reach_23 : decode cX9_reach 23 = .ok (.istore 5, 2) := by decide +kernel
theorem dX9_reach_25 : decode cX9_reach 25 = .ok (.iconst 0, 1) := by decide +kernel
theorem dX9_reach_26 : decode cX9_reach 26 = .ok (.istore 6, 2) := by decide +kernel
theorem dX9_reach_28 : decode cX9_reach 28 = .ok (.iload 6, 2) := by decide +kernel
theorem dX9_reach_30 : decode cX9_reach 30 = .ok (.iload_n 1, 1) := by decide +kernel
theorem dX9_reach_31 : decode cX9_reach 31 = .ok (.if_icmp .ge 71, 3) := by decide +kernel
theorem dX9_reach_34 : decode cX9_reach 34 = .ok (.iload 6, 2) := by decide +kernel
theorem dX9_reach_36 : decode cX9_reach 36 = .ok (.aload_n 0, 1) := by decide +kernel
theorem dX9_reach_37 : decode cX9_reach 37 = .ok (.arraylength, 1) := by decide +kernel
theorem dX9_reach_38 : decode cX9_reach 38 = .ok (.if_icmp .ge 64, 3) := by decide +kernel
theorem dX9_reach_41 : decode cX9_reach 41 = .ok (.iload 6, 2) := by decide +kernel
theorem dX9_reach_43 : decode cX9_reach 43 = .ok (.ifCond .le 26, 3) := by decide +kernel
theorem dX9_reach_46 : decode cX9_reach 46 = .ok (.aload_n 0, 1) := by decide +kernel
theorem dX9_reach_47 : decode cX9_reach 47 = .ok (.iload 6, 2) := by decide +kernel
theorem dX9_reach_49 : decode cX9_reach 49 = .ok (.iaload, 1) := by decide +kernel
theorem dX9_reach_50 : decode cX9_reach 50 = .ok (.iload 4, 2) := by decide +kernel
theorem dX9_reach_52 : decode cX9_reach 52 = .ok (.idiv, 1) := by decide +kernel
theorem dX9_reach_53 : decode cX9_reach 53 = .ok (.aload_n 0, 1) := by decide +kernel
theorem dX9_reach_54 : decode cX9_reach 54 = .ok (.iload 6, 2) := by decide +kernel
theorem dX9_reach_56 : decode cX9_reach 56 = .ok (.iconst 1, 1) := by decide +kernel
theorem dX9_reach_57 : decode cX9_reach 57 = .ok (.isub, 1) := by decide +kernel
theorem dX9_reach_58 : decode cX9_reach 58 = .ok (.iaload, 1) := by decide +kernel
theorem dX9_reach_59 : decode cX9_reach 59 = .ok (.iload 4, 2) := by decide +kernel
theorem dX9_reach_61 : decode cX9_reach 61 = .ok (.idiv, 1) := by decide +kernel
theorem dX9_reach_62 : decode cX9_reach 62 = .ok (.if_icmp .ne 7, 3) := by decide +kernel
theorem dX9_reach_65 : decode cX9_reach 65 = .ok (.iconst 1, 1) := by decide +kernel
theorem dX9_reach_66 : decode cX9_reach 66 = .ok (.goto 4, 3) := by decide +kernel
theorem dX9_reach_69 : decode cX9_reach 69 = .ok (.iconst 0, 1) := by decide +kernel
theorem dX9_reach_70 : decode cX9_reach 70 = .ok (.istore 7, 2) := by decide +kernel
theorem dX9_reach_72 : decode cX9_reach 72 = .ok (.iload 7, 2) := by decide +kernel
theorem dX9_reach_74 : decode cX9_reach 74 = .ok (.ifCond .eq 10, 3) := by decide +kernel
theorem dX9_reach_77 : decode cX9_reach 77 = .ok (.iload 5, 2) := by decide +kernel
theorem dX9_reach_79 : decode cX9_reach 79 = .ok (.iconst 1, 1) := by decide +kernel
theorem dX9_reach_80 : decode cX9_reach 80 = .ok (.iadd, 1) := by decide +kernel
theorem dX9_reach_81 : decode cX9_reach 81 = .ok (.goto 4, 3) := by decide +kernel
theorem dX9_reach_84 : decode cX9_reach 84 = .ok (.iconst 1, 1) := by decide +kernel
theorem dX9_reach_85 : decode cX9_reach 85 = .ok (.istore 5, 2) := by decide +kernel
theorem dX9_reach_87 : decode cX9_reach 87 = .ok (.iload 5, 2) := by decide +kernel
theorem dX9_reach_89 : decode cX9_reach 89 = .ok (.iload_n 3, 1) := by decide +kernel
theorem dX9_reach_90 : decode cX9_reach 90 = .ok (.if_icmp .lt 6, 3) := by decide +kernel
theorem dX9_reach_93 : decode cX9_reach 93 = .ok (.iload 6, 2) := by decide +kernel
theorem dX9_reach_95 : decode cX9_reach 95 = .ok (.ireturn, 1) := by decide +kernel
theorem dX9_reach_96 : decode cX9_reach 96 = .ok (.iinc 6 1, 3) := by decide +kernel
theorem dX9_reach_99 : decode cX9_reach 99 = .ok (.goto (-71), 3) := by decide +kernel
theorem dX9_reach_102 : decode cX9_reach 102 = .ok (.iconst (-1), 1) := by decide +kernel
theorem dX9_reach_103 : decode cX9_reach 103 = .ok (.ireturn, 1) := by decide +kernel
theorem dX9_longest_0 : decode cX9_longest 0 = .ok (.iconst 0, 1) := by decide +kernel
theorem dX9_longest_1 : decode cX9_longest 1 = .ok (.istore_n 3, 1) := by decide +kernel
theorem dX9_longest_2 : decode cX9_longest 2 = .ok (.iload_n 3, 1) := by decide +kernel
theorem dX9_longest_3 : decode cX9_longest 3 = .ok (.iload_n 1, 1) := by decide +kernel
theorem dX9_longest_4 : decode cX9_longest 4 = .ok (.if_icmp .ge 21, 3) := by decide +kernel
theorem dX9_longest_7 : decode cX9_longest 7 = .ok (.aload_n 0, 1) := by decide +kernel
theorem dX9_longest_8 : decode cX9_longest 8 = .ok (.iload_n 1, 1) := by decide +kernel
theorem dX9_longest_9 : decode cX9_longest 9 = .ok (.iload_n 2, 1) := by decide +kernel
theorem dX9_longest_10 : decode cX9_longest 10 = .ok (.iload_n 3, 1) := by decide +kernel
theorem dX9_longest_11 : decode cX9_longest 11 = .ok (.iconst 1, 1) := by decide +kernel
theorem dX9_longest_12 : decode cX9_longest 12 = .ok (.iadd, 1) := by decide +kernel
theorem dX9_longest_13 : decode cX9_longest 13 = .ok (.invokestatic 183, 3) := by decide +kernel
theorem dX9_longest_16 : decode cX9_longest 16 = .ok (.ifCond .lt 9, 3) := by decide +kernel
theorem dX9_longest_19 : decode cX9_longest 19 = .ok (.iinc 3 1, 3) := by decide +kernel
theorem dX9_longest_22 : decode cX9_longest 22 = .ok (.goto (-20), 3) := by decide +kernel
theorem dX9_longest_25 : decode cX9_longest 25 = .ok (.iload_n 3, 1) := by decide +kernel
theorem dX9_longest_26 : decode cX9_longest 26 = .ok (.ireturn, 1) := by decide +kernel
theorem dJ11_isValidCodePoint_9a6ad_0 : decode cJ11_isValidCodePoint_9a6ad 0 = .ok (.iload_n 0, 1) := by decide +kernel
theorem dJ11_isValidCodePoint_9a6ad_1 : decode cJ11_isValidCodePoint_9a6ad 1 = .ok (.bipush 16, 2) := by decide +kernel
theorem dJ11_isValidCodePoint_9a6ad_3 : decode cJ11_isValidCodePoint_9a6ad 3 = .ok (.iushr, 1) := by decide +kernel
theorem dJ11_isValidCodePoint_9a6ad_4 : decode cJ11_isValidCodePoint_9a6ad 4 = .ok (.istore_n 1, 1) := by decide +kernel
theorem dJ11_isValidCodePoint_9a6ad_5 : decode cJ11_isValidCodePoint_9a6ad 5 = .ok (.iload_n 1, 1) := by decide +kernel
theorem dJ11_isValidCodePoint_9a6ad_6 : decode cJ11_isValidCodePoint_9a6ad 6 = .ok (.bipush 17, 2) := by decide +kernel
theorem dJ11_isValidCodePoint_9a6ad_8 : decode cJ11_isValidCodePoint_9a6ad 8 = .ok (.if_icmp .ge 7, 3) := by decide +kernel
theorem dJ11_isValidCodePoint_9a6ad_11 : decode cJ11_isValidCodePoint_9a6ad 11 = .ok (.iconst 1, 1) := by decide +kernel
theorem dJ11_isValidCodePoint_9a6ad_12 : decode cJ11_isValidCodePoint_9a6ad 12 = .ok (.goto 4, 3) := by decide +kernel
theorem dJ11_isValidCodePoint_9a6ad_15 : decode cJ11_isValidCodePoint_9a6ad 15 = .ok (.iconst 0, 1) := by decide +kernel
theorem dJ11_isValidCodePoint_9a6ad_16 : decode cJ11_isValidCodePoint_9a6ad 16 = .ok (.ireturn, 1) := by decide +kernel
theorem dJ11_highSurrogate_5068e_0 : decode cJ11_highSurrogate_5068e 0 = .ok (.iload_n 0, 1) := by decide +kernel
theorem dJ11_highSurrogate_5068e_1 : decode cJ11_highSurrogate_5068e 1 = .ok (.bipush 10, 2) := by decide +kernel
theorem dJ11_highSurrogate_5068e_3 : decode cJ11_highSurrogate_5068e 3 = .ok (.iushr, 1) := by decide +kernel
theorem dJ11_highSurrogate_5068e_4 : decode cJ11_highSurrogate_5068e 4 = .ok (.ldc 110, 2) := by decide +kernel
theorem dJ11_highSurrogate_5068e_6 : decode cJ11_highSurrogate_5068e 6 = .ok (.iadd, 1) := by decide +kernel
theorem dJ11_highSurrogate_5068e_7 : decode cJ11_highSurrogate_5068e 7 = .ok (.i2c, 1) := by decide +kernel
theorem dJ11_highSurrogate_5068e_8 : decode cJ11_highSurrogate_5068e 8 = .ok (.ireturn, 1) := by decide +kernel
theorem dJ11_lowSurrogate_5068e_0 : decode cJ11_lowSurrogate_5068e 0 = .ok (.iload_n 0, 1) := by decide +kernel
theorem dJ11_lowSurrogate_5068e_1 : decode cJ11_lowSurrogate_5068e 1 = .ok (.sipush 1023, 3) := by decide +kernel
theorem dJ11_lowSurrogate_5068e_4 : decode cJ11_lowSurrogate_5068e 4 = .ok (.iand, 1) := by decide +kernel
theorem dJ11_lowSurrogate_5068e_5 : decode cJ11_lowSurrogate_5068e 5 = .ok (.ldc 76, 2) := by decide +kernel
theorem dJ11_lowSurrogate_5068e_7 : decode cJ11_lowSurrogate_5068e 7 = .ok (.iadd, 1) := by decide +kernel
theorem dJ11_lowSurrogate_5068e_8 : decode cJ11_lowSurrogate_5068e 8 = .ok (.i2c, 1) := by decide +kernel
theorem dJ11_lowSurrogate_5068e_9 : decode cJ11_lowSurrogate_5068e 9 = .ok (.ireturn, 1) := by decide +kernel
theorem dJ6_bitCount_0f7a4_0 : decode cJ6_bitCount_0f7a4 0 = .ok (.iload_n 0, 1) := by decide +kernel
theorem dJ6_bitCount_0f7a4_1 : decode cJ6_bitCount_0f7a4 1 = .ok (.iload_n 0, 1) := by decide +kernel
theorem dJ6_bitCount_0f7a4_2 : decode cJ6_bitCount_0f7a4 2 = .ok (.iconst 1, 1) := by decide +kernel
theorem dJ6_bitCount_0f7a4_3 : decode cJ6_bitCount_0f7a4 3 = .ok (.iushr, 1) := by decide +kernel
theorem dJ6_bitCount_0f7a4_4 : decode cJ6_bitCount_0f7a4 4 = .ok (.ldc_w 265, 3) := by decide +kernel
theorem dJ6_bitCount_0f7a4_7 : decode cJ6_bitCount_0f7a4 7 = .ok (.iand, 1) := by decide +kernel
theorem dJ6_bitCount_0f7a4_8 : decode cJ6_bitCount_0f7a4 8 = .ok (.isub, 1) := by decide +kernel
theorem dJ6_bitCount_0f7a4_9 : decode cJ6_bitCount_0f7a4 9 = .ok (.istore_n 0, 1) := by decide +kernel
theorem dJ6_bitCount_0f7a4_10 : decode cJ6_bitCount_0f7a4 10 = .ok (.iload_n 0, 1) := by decide +kernel
theorem dJ6_bitCount_0f7a4_11 : decode cJ6_bitCount_0f7a4 11 = .ok (.ldc_w 266, 3) := by decide +kernel
theorem dJ6_bitCount_0f7a4_14 : decode cJ6_bitCount_0f7a4 14 = .ok (.iand, 1) := by decide +kernel
theorem dJ6_bitCount_0f7a4_15 : decode cJ6_bitCount_0f7a4 15 = .ok (.iload_n 0, 1) := by decide +kernel
theorem dJ6_bitCount_0f7a4_16 : decode cJ6_bitCount_0f7a4 16 = .ok (.iconst 2, 1) := by decide +kernel
theorem dJ6_bitCount_0f7a4_17 : decode cJ6_bitCount_0f7a4 17 = .ok (.iushr, 1) := by decide +kernel
theorem dJ6_bitCount_0f7a4_18 : decode cJ6_bitCount_0f7a4 18 = .ok (.ldc_w 266, 3) := by decide +kernel
theorem dJ6_bitCount_0f7a4_21 : decode cJ6_bitCount_0f7a4 21 = .ok (.iand, 1) := by decide +kernel
theorem dJ6_bitCount_0f7a4_22 : decode cJ6_bitCount_0f7a4 22 = .ok (.iadd, 1) := by decide +kernel
theorem dJ6_bitCount_0f7a4_23 : decode cJ6_bitCount_0f7a4 23 = .ok (.istore_n 0, 1) := by decide +kernel
theorem dJ6_bitCount_0f7a4_24 : decode cJ6_bitCount_0f7a4 24 = .ok (.iload_n 0, 1) := by decide +kernel
theorem dJ6_bitCount_0f7a4_25 : decode cJ6_bitCount_0f7a4 25 = .ok (.iload_n 0, 1) := by decide +kernel
theorem dJ6_bitCount_0f7a4_26 : decode cJ6_bitCount_0f7a4 26 = .ok (.iconst 4, 1) := by decide +kernel
theorem dJ6_bitCount_0f7a4_27 : decode cJ6_bitCount_0f7a4 27 = .ok (.iushr, 1) := by decide +kernel
theorem dJ6_bitCount_0f7a4_28 : decode cJ6_bitCount_0f7a4 28 = .ok (.iadd, 1) := by decide +kernel
theorem dJ6_bitCount_0f7a4_29 : decode cJ6_bitCount_0f7a4 29 = .ok (.ldc_w 267, 3) := by decide +kernel
theorem dJ6_bitCount_0f7a4_32 : decode cJ6_bitCount_0f7a4 32 = .ok (.iand, 1) := by decide +kernel
theorem dJ6_bitCount_0f7a4_33 : decode cJ6_bitCount_0f7a4 33 = .ok (.istore_n 0, 1) := by decide +kernel
theorem dJ6_bitCount_0f7a4_34 : decode cJ6_bitCount_0f7a4 34 = .ok (.iload_n 0, 1) := by decide +kernel
theorem dJ6_bitCount_0f7a4_35 : decode cJ6_bitCount_0f7a4 35 = .ok (.iload_n 0, 1) := by decide +kernel
theorem dJ6_bitCount_0f7a4_36 : decode cJ6_bitCount_0f7a4 36 = .ok (.bipush 8, 2) := by decide +kernel
theorem dJ6_bitCount_0f7a4_38 : decode cJ6_bitCount_0f7a4 38 = .ok (.iushr, 1) := by decide +kernel
theorem dJ6_bitCount_0f7a4_39 : decode cJ6_bitCount_0f7a4 39 = .ok (.iadd, 1) := by decide +kernel
theorem dJ6_bitCount_0f7a4_40 : decode cJ6_bitCount_0f7a4 40 = .ok (.istore_n 0, 1) := by decide +kernel
theorem dJ6_bitCount_0f7a4_41 : decode cJ6_bitCount_0f7a4 41 = .ok (.iload_n 0, 1) := by decide +kernel
theorem dJ6_bitCount_0f7a4_42 : decode cJ6_bitCount_0f7a4 42 = .ok (.iload_n 0, 1) := by decide +kernel
theorem dJ6_bitCount_0f7a4_43 : decode cJ6_bitCount_0f7a4 43 = .ok (.bipush 16, 2) := by decide +kernel
theorem dJ6_bitCount_0f7a4_45 : decode cJ6_bitCount_0f7a4 45 = .ok (.iushr, 1) := by decide +kernel
theorem dJ6_bitCount_0f7a4_46 : decode cJ6_bitCount_0f7a4 46 = .ok (.iadd, 1) := by decide +kernel
theorem dJ6_bitCount_0f7a4_47 : decode cJ6_bitCount_0f7a4 47 = .ok (.istore_n 0, 1) := by decide +kernel
theorem dJ6_bitCount_0f7a4_48 : decode cJ6_bitCount_0f7a4 48 = .ok (.iload_n 0, 1) := by decide +kernel
theorem dJ6_bitCount_0f7a4_49 : decode cJ6_bitCount_0f7a4 49 = .ok (.bipush 63, 2) := by decide +kernel
theorem dJ6_bitCount_0f7a4_51 : decode cJ6_bitCount_0f7a4 51 = .ok (.iand, 1) := by decide +kernel
theorem dJ6_bitCount_0f7a4_52 : decode cJ6_bitCount_0f7a4 52 = .ok (.ireturn, 1) := by decide +kernel
theorem dJ9_abs_0f7a4_0 : decode cJ9_abs_0f7a4 0 = .ok (.iload_n 0, 1) := by decide +kernel
theorem dJ9_abs_0f7a4_1 : decode cJ9_abs_0f7a4 1 = .ok (.ifCond .ge 8, 3) := by decide +kernel
theorem dJ9_abs_0f7a4_4 : decode cJ9_abs_0f7a4 4 = .ok (.iload_n 0, 1) := by decide +kernel
theorem dJ9_abs_0f7a4_5 : decode cJ9_abs_0f7a4 5 = .ok (.ineg, 1) := by decide +kernel
theorem dJ9_abs_0f7a4_6 : decode cJ9_abs_0f7a4 6 = .ok (.goto 4, 3) := by decide +kernel
theorem dJ9_abs_0f7a4_9 : decode cJ9_abs_0f7a4 9 = .ok (.iload_n 0, 1) := by decide +kernel
theorem dJ9_abs_0f7a4_10 : decode cJ9_abs_0f7a4 10 = .ok (.ireturn, 1) := by decide +kernel
theorem dJ9_max_7cf53_0 : decode cJ9_max_7cf53 0 = .ok (.iload_n 0, 1) := by decide +kernel
theorem dJ9_max_7cf53_1 : decode cJ9_max_7cf53 1 = .ok (.iload_n 1, 1) := by decide +kernel
theorem dJ9_max_7cf53_2 : decode cJ9_max_7cf53 2 = .ok (.if_icmp .lt 7, 3) := by decide +kernel
theorem dJ9_max_7cf53_5 : decode cJ9_max_7cf53 5 = .ok (.iload_n 0, 1) := by decide +kernel
theorem dJ9_max_7cf53_6 : decode cJ9_max_7cf53 6 = .ok (.goto 4, 3) := by decide +kernel
theorem dJ9_max_7cf53_9 : decode cJ9_max_7cf53 9 = .ok (.iload_n 1, 1) := by decide +kernel
theorem dJ9_max_7cf53_10 : decode cJ9_max_7cf53 10 = .ok (.ireturn, 1) := by decide +kernel
theorem dJ9_min_7cf53_0 : decode cJ9_min_7cf53 0 = .ok (.iload_n 0, 1) := by decide +kernel
theorem dJ9_min_7cf53_1 : decode cJ9_min_7cf53 1 = .ok (.iload_n 1, 1) := by decide +kernel
theorem dJ9_min_7cf53_2 : decode cJ9_min_7cf53 2 = .ok (.if_icmp .gt 7, 3) := by decide +kernel
theorem dJ9_min_7cf53_5 : decode cJ9_min_7cf53 5 = .ok (.iload_n 0, 1) := by decide +kernel
theorem dJ9_min_7cf53_6 : decode cJ9_min_7cf53 6 = .ok (.goto 4, 3) := by decide +kernel
theorem dJ9_min_7cf53_9 : decode cJ9_min_7cf53 9 = .ok (.iload_n 1, 1) := by decide +kernel
theorem dJ9_min_7cf53_10 : decode cJ9_min_7cf53 10 = .ok (.ireturn, 1) := by decide +kernel
theorem dJ9_min_f86c9_0 : decode cJ9_min_f86c9 0 = .ok (.lload_n 0, 1) := by decide +kernel
theorem dJ9_min_f86c9_1 : decode cJ9_min_f86c9 1 = .ok (.lload_n 2, 1) := by decide +kernel
theorem dJ9_min_f86c9_2 : decode cJ9_min_f86c9 2 = .ok (.lcmp, 1) := by decide +kernel
theorem dJ9_min_f86c9_3 : decode cJ9_min_f86c9 3 = .ok (.ifCond .gt 7, 3) := by decide +kernel
theorem dJ9_min_f86c9_6 : decode cJ9_min_f86c9 6 = .ok (.lload_n 0, 1) := by decide +kernel
theorem dJ9_min_f86c9_7 : decode cJ9_min_f86c9 7 = .ok (.goto 4, 3) := by decide +kernel
theorem dJ9_min_f86c9_10 : decode cJ9_min_f86c9 10 = .ok (.lload_n 2, 1) := by decide +kernel
theorem dJ9_min_f86c9_11 : decode cJ9_min_f86c9 11 = .ok (.lreturn, 1) := by decide +kernel
theorem dJ0_length_8abf5_0 : decode cJ0_length_8abf5 0 = .ok (.aload_n 0, 1) := by decide +kernel
theorem dJ0_length_8abf5_1 : decode cJ0_length_8abf5 1 = .ok (.getfield 9, 3) := by decide +kernel
theorem dJ0_length_8abf5_4 : decode cJ0_length_8abf5 4 = .ok (.arraylength, 1) := by decide +kernel
theorem dJ0_length_8abf5_5 : decode cJ0_length_8abf5 5 = .ok (.aload_n 0, 1) := by decide +kernel
theorem dJ0_length_8abf5_6 : decode cJ0_length_8abf5 6 = .ok (.invokevirtual 335, 3) := by decide +kernel
theorem dJ0_length_8abf5_9 : decode cJ0_length_8abf5 9 = .ok (.ishr, 1) := by decide +kernel
theorem dJ0_length_8abf5_10 : decode cJ0_length_8abf5 10 = .ok (.ireturn, 1) := by decide +kernel
theorem dJ0_charAt_5068e_0 : decode cJ0_charAt_5068e 0 = .ok (.aload_n 0, 1) := by decide +kernel
theorem dJ0_charAt_5068e_1 : decode cJ0_charAt_5068e 1 = .ok (.invokevirtual 492, 3) := by decide +kernel
theorem dJ0_charAt_5068e_4 : decode cJ0_charAt_5068e 4 = .ok (.ifCond .eq 12, 3) := by decide +kernel
theorem dJ0_charAt_5068e_7 : decode cJ0_charAt_5068e 7 = .ok (.aload_n 0, 1) := by decide +kernel
theorem dJ0_charAt_5068e_8 : decode cJ0_charAt_5068e 8 = .ok (.getfield 9, 3) := by decide +kernel
theorem dJ0_charAt_5068e_11 : decode cJ0_charAt_5068e 11 = .ok (.iload_n 1, 1) := by decide +kernel
theorem dJ0_charAt_5068e_12 : decode cJ0_charAt_5068e 12 = .ok (.invokestatic 495, 3) := by decide +kernel
theorem dJ0_charAt_5068e_15 : decode cJ0_charAt_5068e 15 = .ok (.ireturn, 1) := by decide +kernel
theorem dJ0_charAt_5068e_16 : decode cJ0_charAt_5068e 16 = .ok (.aload_n 0, 1) := by decide +kernel
theorem dJ0_charAt_5068e_17 : decode cJ0_charAt_5068e 17 = .ok (.getfield 9, 3) := by decide +kernel
theorem dJ0_charAt_5068e_20 : decode cJ0_charAt_5068e 20 = .ok (.iload_n 1, 1) := by decide +kernel
theorem dJ0_charAt_5068e_21 : decode cJ0_charAt_5068e 21 = .ok (.invokestatic 498, 3) := by decide +kernel
theorem dJ0_charAt_5068e_24 : decode cJ0_charAt_5068e 24 = .ok (.ireturn, 1) := by decide +kernel
theorem dJ0_indexOf_0f7a4_0 : decode cJ0_indexOf_0f7a4 0 = .ok (.aload_n 0, 1) := by decide +kernel
theorem dJ0_indexOf_0f7a4_1 : decode cJ0_indexOf_0f7a4 1 = .ok (.iload_n 1, 1) := by decide +kernel
theorem dJ0_indexOf_0f7a4_2 : decode cJ0_indexOf_0f7a4 2 = .ok (.iconst 0, 1) := by decide +kernel
theorem dJ0_indexOf_0f7a4_3 : decode cJ0_indexOf_0f7a4 3 = .ok (.invokevirtual 633, 3) := by decide +kernel
theorem dJ0_indexOf_0f7a4_6 : decode cJ0_indexOf_0f7a4 6 = .ok (.ireturn, 1) := by decide +kernel
theorem dJ0_indexOf_7cf53_0 : decode cJ0_indexOf_7cf53 0 = .ok (.aload_n 0, 1) := by decide +kernel
theorem dJ0_indexOf_7cf53_1 : decode cJ0_indexOf_7cf53 1 = .ok (.invokevirtual 492, 3) := by decide +kernel
theorem dJ0_indexOf_7cf53_4 : decode cJ0_indexOf_7cf53 4 = .ok (.ifCond .eq 19, 3) := by decide +kernel
theorem dJ0_indexOf_7cf53_7 : decode cJ0_indexOf_7cf53 7 = .ok (.aload_n 0, 1) := by decide +kernel
theorem dJ0_indexOf_7cf53_8 : decode cJ0_indexOf_7cf53 8 = .ok (.getfield 9, 3) := by decide +kernel
theorem dJ0_indexOf_7cf53_11 : decode cJ0_indexOf_7cf53 11 = .ok (.iload_n 1, 1) := by decide +kernel
theorem dJ0_indexOf_7cf53_12 : decode cJ0_indexOf_7cf53 12 = .ok (.iload_n 2, 1) := by decide +kernel
theorem dJ0_indexOf_7cf53_13 : decode cJ0_indexOf_7cf53 13 = .ok (.aload_n 0, 1) := by decide +kernel
theorem dJ0_indexOf_7cf53_14 : decode cJ0_indexOf_7cf53 14 = .ok (.invokevirtual 505, 3) := by decide +kernel
theorem dJ0_indexOf_7cf53_17 : decode cJ0_indexOf_7cf53 17 = .ok (.invokestatic 637, 3) := by decide +kernel
theorem dJ0_indexOf_7cf53_20 : decode cJ0_indexOf_7cf53 20 = .ok (.goto 16, 3) := by decide +kernel
theorem dJ0_indexOf_7cf53_23 : decode cJ0_indexOf_7cf53 23 = .ok (.aload_n 0, 1) := by decide +kernel
theorem dJ0_indexOf_7cf53_24 : decode cJ0_indexOf_7cf53 24 = .ok (.getfield 9, 3) := by decide +kernel
theorem dJ0_indexOf_7cf53_27 : decode cJ0_indexOf_7cf53 27 = .ok (.iload_n 1, 1) := by decide +kernel
theorem dJ0_indexOf_7cf53_28 : decode cJ0_indexOf_7cf53 28 = .ok (.iload_n 2, 1) := by decide +kernel
theorem dJ0_indexOf_7cf53_29 : decode cJ0_indexOf_7cf53 29 = .ok (.aload_n 0, 1) := by decide +kernel
theorem dJ0_indexOf_7cf53_30 : decode cJ0_indexOf_7cf53 30 = .ok (.invokevirtual 505, 3) := by decide +kernel
theorem dJ0_indexOf_7cf53_33 : decode cJ0_indexOf_7cf53 33 = .ok (.invokestatic 640, 3) := by decide +kernel
theorem dJ0_indexOf_7cf53_36 : decode cJ0_indexOf_7cf53 36 = .ok (.ireturn, 1) := by decide +kernel
theorem dJ0_coder_7d493_0 : decode cJ0_coder_7d493 0 = .ok (.getstatic 38, 3) := by decide +kernel
theorem dJ0_coder_7d493_3 : decode cJ0_coder_7d493 3 = .ok (.ifCond .eq 10, 3) := by decide +kernel
theorem dJ0_coder_7d493_6 : decode cJ0_coder_7d493 6 = .ok (.aload_n 0, 1) := by decide +kernel
theorem dJ0_coder_7d493_7 : decode cJ0_coder_7d493 7 = .ok (.getfield 15, 3) := by decide +kernel
theorem dJ0_coder_7d493_10 : decode cJ0_coder_7d493 10 = .ok (.goto 4, 3) := by decide +kernel
theorem dJ0_coder_7d493_13 : decode cJ0_coder_7d493 13 = .ok (.iconst 1, 1) := by decide +kernel
theorem dJ0_coder_7d493_14 : decode cJ0_coder_7d493 14 = .ok (.ireturn, 1) := by decide +kernel
theorem dJ0_isLatin1_aae02_0 : decode cJ0_isLatin1_aae02 0 = .ok (.getstatic 38, 3) := by decide +kernel
theorem dJ0_isLatin1_aae02_3 : decode cJ0_isLatin1_aae02 3 = .ok (.ifCond .eq 14, 3) := by decide +kernel
theorem dJ0_isLatin1_aae02_6 : decode cJ0_isLatin1_aae02 6 = .ok (.aload_n 0, 1) := by decide +kernel
theorem dJ0_isLatin1_aae02_7 : decode cJ0_isLatin1_aae02 7 = .ok (.getfield 15, 3) := by decide +kernel
theorem dJ0_isLatin1_aae02_10 : decode cJ0_isLatin1_aae02 10 = .ok (.ifCond .ne 7, 3) := by decide +kernel
theorem dJ0_isLatin1_aae02_13 : decode cJ0_isLatin1_aae02 13 = .ok (.iconst 1, 1) := by decide +kernel
theorem dJ0_isLatin1_aae02_14 : decode cJ0_isLatin1_aae02 14 = .ok (.goto 4, 3) := by decide +kernel
theorem dJ0_isLatin1_aae02_17 : decode cJ0_isLatin1_aae02 17 = .ok (.iconst 0, 1) := by decide +kernel
theorem dJ0_isLatin1_aae02_18 : decode cJ0_isLatin1_aae02 18 = .ok (.ireturn, 1) := by decide +kernel
theorem dJ0_checkIndex_df160_0 : decode cJ0_checkIndex_df160 0 = .ok (.iload_n 0, 1) := by decide +kernel
theorem dJ0_checkIndex_df160_1 : decode cJ0_checkIndex_df160 1 = .ok (.iload_n 1, 1) := by decide +kernel
theorem dJ0_checkIndex_df160_2 : decode cJ0_checkIndex_df160 2 = .ok (.getstatic 1053, 3) := by decide +kernel
theorem dJ0_checkIndex_df160_5 : decode cJ0_checkIndex_df160 5 = .ok (.invokestatic 1059, 3) := by decide +kernel
theorem dJ0_checkIndex_df160_8 : decode cJ0_checkIndex_df160 8 = .ok (.pop, 1) := by decide +kernel
theorem dJ0_checkIndex_df160_9 : decode cJ0_checkIndex_df160 9 = .ok (.return_, 1) := by decide +kernel
theorem dJ0_checkBoundsBeginEnd_23922_0 : decode cJ0_checkBoundsBeginEnd_23922 0 = .ok (.iload_n 0, 1) := by decide +kernel
theorem dJ0_checkBoundsBeginEnd_23922_1 : decode cJ0_checkBoundsBeginEnd_23922 1 = .ok (.iload_n 1, 1) := by decide +kernel
theorem dJ0_checkBoundsBeginEnd_23922_2 : decode cJ0_checkBoundsBeginEnd_23922 2 = .ok (.iload_n 2, 1) := by decide +kernel
theorem dJ0_checkBoundsBeginEnd_23922_3 : decode cJ0_checkBoundsBeginEnd_23922 3 = .ok (.getstatic 1053, 3) := by decide +kernel
theorem dJ0_checkBoundsBeginEnd_23922_6 : decode cJ0_checkBoundsBeginEnd_23922 6 = .ok (.invokestatic 1062, 3) := by decide +kernel
theorem dJ0_checkBoundsBeginEnd_23922_9 : decode cJ0_checkBoundsBeginEnd_23922 9 = .ok (.pop, 1) := by decide +kernel
theorem dJ0_checkBoundsBeginEnd_23922_10 : decode cJ0_checkBoundsBeginEnd_23922 10 = .ok (.return_, 1) := by decide +kernel
theorem dJ1_charAt_3b067_0 : decode cJ1_charAt_3b067 0 = .ok (.iload_n 1, 1) := by decide +kernel
theorem dJ1_charAt_3b067_1 : decode cJ1_charAt_3b067 1 = .ok (.aload_n 0, 1) := by decide +kernel
theorem dJ1_charAt_3b067_2 : decode cJ1_charAt_3b067 2 = .ok (.arraylength, 1) := by decide +kernel
theorem dJ1_charAt_3b067_3 : decode cJ1_charAt_3b067 3 = .ok (.invokestatic 9, 3) := by decide +kernel
theorem dJ1_charAt_3b067_6 : decode cJ1_charAt_3b067 6 = .ok (.aload_n 0, 1) := by decide +kernel
theorem dJ1_charAt_3b067_7 : decode cJ1_charAt_3b067 7 = .ok (.iload_n 1, 1) := by decide +kernel
theorem dJ1_charAt_3b067_8 : decode cJ1_charAt_3b067 8 = .ok (.baload, 1) := by decide +kernel
theorem dJ1_charAt_3b067_9 : decode cJ1_charAt_3b067 9 = .ok (.sipush 255, 3) := by decide +kernel
theorem dJ1_charAt_3b067_12 : decode cJ1_charAt_3b067 12 = .ok (.iand, 1) := by decide +kernel
theorem dJ1_charAt_3b067_13 : decode cJ1_charAt_3b067 13 = .ok (.i2c, 1) := by decide +kernel
theorem dJ1_charAt_3b067_14 : decode cJ1_charAt_3b067 14 = .ok (.ireturn, 1) := by decide +kernel
theorem dJ1_canEncode_9a6ad_0 : decode cJ1_canEncode_9a6ad 0 = .ok (.iload_n 0, 1) := by decide +kernel
theorem dJ1_canEncode_9a6ad_1 : decode cJ1_canEncode_9a6ad 1 = .ok (.ifCond .lt 14, 3) := by decide +kernel
theorem dJ1_canEncode_9a6ad_4 : decode cJ1_canEncode_9a6ad 4 = .ok (.iload_n 0, 1) := by decide +kernel
theorem dJ1_canEncode_9a6ad_5 : decode cJ1_canEncode_9a6ad 5 = .ok (.sipush 255, 3) := by decide +kernel
theorem dJ1_canEncode_9a6ad_8 : decode cJ1_canEncode_9a6ad 8 = .ok (.if_icmp .gt 7, 3) := by decide +kernel
theorem dJ1_canEncode_9a6ad_11 : decode cJ1_canEncode_9a6ad 11 = .ok (.iconst 1, 1) := by decide +kernel
theorem dJ1_canEncode_9a6ad_12 : decode cJ1_canEncode_9a6ad 12 = .ok (.goto 4, 3) := by decide +kernel
theorem dJ1_canEncode_9a6ad_15 : decode cJ1_canEncode_9a6ad 15 = .ok (.iconst 0, 1) := by decide +kernel
theorem dJ1_canEncode_9a6ad_16 : decode cJ1_canEncode_9a6ad 16 = .ok (.ireturn, 1) := by decide +kernel
theorem dJ1_indexOf_4cfef_0 : decode cJ1_indexOf_4cfef 0 = .ok (.iload_n 1, 1) := by decide +kernel
theorem dJ1_indexOf_4cfef_1 : decode cJ1_indexOf_4cfef 1 = .ok (.invokestatic 88, 3) := by decide +kernel
theorem dJ1_indexOf_4cfef_4 : decode cJ1_indexOf_4cfef 4 = .ok (.ifCond .ne 5, 3) := by decide +kernel
theorem dJ1_indexOf_4cfef_7 : decode cJ1_indexOf_4cfef 7 = .ok (.iconst (-1), 1) := by decide +kernel
theorem dJ1_indexOf_4cfef_8 : decode cJ1_indexOf_4cfef 8 = .ok (.ireturn, 1) := by decide +kernel
theorem dJ1_indexOf_4cfef_9 : decode cJ1_indexOf_4cfef 9 = .ok (.iload_n 2, 1) := by decide +kernel
theorem dJ1_indexOf_4cfef_10 : decode cJ1_indexOf_4cfef 10 = .ok (.iconst 0, 1) := by decide +kernel
theorem dJ1_indexOf_4cfef_11 : decode cJ1_indexOf_4cfef 11 = .ok (.invokestatic 92, 3) := by decide +kernel
theorem dJ1_indexOf_4cfef_14 : decode cJ1_indexOf_4cfef 14 = .ok (.istore_n 2, 1) := by decide +kernel
theorem dJ1_indexOf_4cfef_15 : decode cJ1_indexOf_4cfef 15 = .ok (.iload_n 3, 1) := by decide +kernel
theorem dJ1_indexOf_4cfef_16 : decode cJ1_indexOf_4cfef 16 = .ok (.aload_n 0, 1) := by decide +kernel
theorem dJ1_indexOf_4cfef_17 : decode cJ1_indexOf_4cfef 17 = .ok (.arraylength, 1) := by decide +kernel
theorem dJ1_indexOf_4cfef_18 : decode cJ1_indexOf_4cfef 18 = .ok (.invokestatic 38, 3) := by decide +kernel
theorem dJ1_indexOf_4cfef_21 : decode cJ1_indexOf_4cfef 21 = .ok (.istore_n 3, 1) := by decide +kernel
theorem dJ1_indexOf_4cfef_22 : decode cJ1_indexOf_4cfef 22 = .ok (.iload_n 2, 1) := by decide +kernel
theorem dJ1_indexOf_4cfef_23 : decode cJ1_indexOf_4cfef 23 = .ok (.iload_n 3, 1) := by decide +kernel
theorem dJ1_indexOf_4cfef_24 : decode cJ1_indexOf_4cfef 24 = .ok (.if_icmp .lt 5, 3) := by decide +kernel
theorem dJ1_indexOf_4cfef_27 : decode cJ1_indexOf_4cfef 27 = .ok (.iconst (-1), 1) := by decide +kernel
theorem dJ1_indexOf_4cfef_28 : decode cJ1_indexOf_4cfef 28 = .ok (.ireturn, 1) := by decide +kernel
theorem dJ1_indexOf_4cfef_29 : decode cJ1_indexOf_4cfef 29 = .ok (.aload_n 0, 1) := by decide +kernel
theorem dJ1_indexOf_4cfef_30 : decode cJ1_indexOf_4cfef 30 = .ok (.iload_n 1, 1) := by decide +kernel
theorem dJ1_indexOf_4cfef_31 : decode cJ1_indexOf_4cfef 31 = .ok (.iload_n 2, 1) := by decide +kernel
theorem dJ1_indexOf_4cfef_32 : decode cJ1_indexOf_4cfef 32 = .ok (.iload_n 3, 1) := by decide +kernel
theorem dJ1_indexOf_4cfef_33 : decode cJ1_indexOf_4cfef 33 = .ok (.invokestatic 95, 3) := by decide +kernel
theorem dJ1_indexOf_4cfef_36 : decode cJ1_indexOf_4cfef 36 = .ok (.ireturn, 1) := by decide +kernel
theorem dJ1_indexOfChar_4cfef_0 : decode cJ1_indexOfChar_4cfef 0 = .ok (.iload_n 1, 1) := by decide +kernel
theorem dJ1_indexOfChar_4cfef_1 : decode cJ1_indexOfChar_4cfef 1 = .ok (.i2b, 1) := by decide +kernel
theorem dJ1_indexOfChar_4cfef_2 : decode cJ1_indexOfChar_4cfef 2 = .ok (.istore 4, 2) := by decide +kernel
theorem dJ1_indexOfChar_4cfef_4 : decode cJ1_indexOfChar_4cfef 4 = .ok (.iload_n 2, 1) := by decide +kernel
theorem dJ1_indexOfChar_4cfef_5 : decode cJ1_indexOfChar_4cfef 5 = .ok (.istore 5, 2) := by decide +kernel
theorem dJ1_indexOfChar_4cfef_7 : decode cJ1_indexOfChar_4cfef 7 = .ok (.iload 5, 2) := by decide +kernel
theorem dJ1_indexOfChar_4cfef_9 : decode cJ1_indexOfChar_4cfef 9 = .ok (.iload_n 3, 1) := by decide +kernel
theorem dJ1_indexOfChar_4cfef_10 : decode cJ1_indexOfChar_4cfef 10 = .ok (.if_icmp .ge 21, 3) := by decide +kernel
theorem dJ1_indexOfChar_4cfef_13 : decode cJ1_indexOfChar_4cfef 13 = .ok (.aload_n 0, 1) := by decide +kernel
theorem dJ1_indexOfChar_4cfef_14 : decode cJ1_indexOfChar_4cfef 14 = .ok (.iload 5, 2) := by decide +kernel
theorem dJ1_indexOfChar_4cfef_16 : decode cJ1_indexOfChar_4cfef 16 = .ok (.baload, 1) := by decide +kernel
theorem dJ1_indexOfChar_4cfef_17 : decode cJ1_indexOfChar_4cfef 17 = .ok (.iload 4, 2) := by decide +kernel
theorem dJ1_indexOfChar_4cfef_19 : decode cJ1_indexOfChar_4cfef 19 = .ok (.if_icmp .ne 6, 3) := by decide +kernel
theorem dJ1_indexOfChar_4cfef_22 : decode cJ1_indexOfChar_4cfef 22 = .ok (.iload 5, 2) := by decide +kernel
theorem dJ1_indexOfChar_4cfef_24 : decode cJ1_indexOfChar_4cfef 24 = .ok (.ireturn, 1) := by decide +kernel
theorem dJ1_indexOfChar_4cfef_25 : decode cJ1_indexOfChar_4cfef 25 = .ok (.iinc 5 1, 3) := by decide +kernel
theorem dJ1_indexOfChar_4cfef_28 : decode cJ1_indexOfChar_4cfef 28 = .ok (.goto (-21), 3) := by decide +kernel
theorem dJ1_indexOfChar_4cfef_31 : decode cJ1_indexOfChar_4cfef 31 = .ok (.iconst (-1), 1) := by decide +kernel
theorem dJ1_indexOfChar_4cfef_32 : decode cJ1_indexOfChar_4cfef 32 = .ok (.ireturn, 1) := by decide +kernel
theorem dJ2_getChar_3b067_0 : decode cJ2_getChar_3b067 0 = .ok (.getstatic 44, 3) := by decide +kernel
theorem dJ2_getChar_3b067_3 : decode cJ2_getChar_3b067 3 = .ok (.ifCond .ne 25, 3) := by decide +kernel
theorem dJ2_getChar_3b067_6 : decode cJ2_getChar_3b067 6 = .ok (.iload_n 1, 1) := by decide +kernel
theorem dJ2_getChar_3b067_7 : decode cJ2_getChar_3b067 7 = .ok (.ifCond .lt 11, 3) := by decide +kernel
theorem dJ2_getChar_3b067_10 : decode cJ2_getChar_3b067 10 = .ok (.iload_n 1, 1) := by decide +kernel
theorem dJ2_getChar_3b067_11 : decode cJ2_getChar_3b067 11 = .ok (.aload_n 0, 1) := by decide +kernel
theorem dJ2_getChar_3b067_12 : decode cJ2_getChar_3b067 12 = .ok (.invokestatic 48, 3) := by decide +kernel
theorem dJ2_getChar_3b067_15 : decode cJ2_getChar_3b067 15 = .ok (.if_icmp .lt 13, 3) := by decide +kernel
theorem dJ2_getChar_3b067_18 : decode cJ2_getChar_3b067 18 = .ok (.new 52, 3) := by decide +kernel
theorem dJ2_getChar_3b067_21 : decode cJ2_getChar_3b067 21 = .ok (.dup, 1) := by decide +kernel
theorem dJ2_getChar_3b067_22 : decode cJ2_getChar_3b067 22 = .ok (.ldc 54, 2) := by decide +kernel
theorem dJ2_getChar_3b067_24 : decode cJ2_getChar_3b067 24 = .ok (.invokespecial 56, 3) := by decide +kernel
theorem dJ2_getChar_3b067_27 : decode cJ2_getChar_3b067 27 = .ok (.athrow, 1) := by decide +kernel
theorem dJ2_getChar_3b067_28 : decode cJ2_getChar_3b067 28 = .ok (.iload_n 1, 1) := by decide +kernel
theorem dJ2_getChar_3b067_29 : decode cJ2_getChar_3b067 29 = .ok (.iconst 1, 1) := by decide +kernel
theorem dJ2_getChar_3b067_30 : decode cJ2_getChar_3b067 30 = .ok (.ishl, 1) := by decide +kernel
theorem dJ2_getChar_3b067_31 : decode cJ2_getChar_3b067 31 = .ok (.istore_n 1, 1) := by decide +kernel
theorem dJ2_getChar_3b067_32 : decode cJ2_getChar_3b067 32 = .ok (.aload_n 0, 1) := by decide +kernel
theorem dJ2_getChar_3b067_33 : decode cJ2_getChar_3b067 33 = .ok (.iload_n 1, 1) := by decide +kernel
theorem dJ2_getChar_3b067_34 : decode cJ2_getChar_3b067 34 = .ok (.iinc 1 1, 3) := by decide +kernel
theorem dJ2_getChar_3b067_37 : decode cJ2_getChar_3b067 37 = .ok (.baload, 1) := by decide +kernel
theorem dJ2_getChar_3b067_38 : decode cJ2_getChar_3b067 38 = .ok (.sipush 255, 3) := by decide +kernel
theorem dJ2_getChar_3b067_41 : decode cJ2_getChar_3b067 41 = .ok (.iand, 1) := by decide +kernel
theorem dJ2_getChar_3b067_42 : decode cJ2_getChar_3b067 42 = .ok (.getstatic 59, 3) := by decide +kernel
theorem dJ2_getChar_3b067_45 : decode cJ2_getChar_3b067 45 = .ok (.ishl, 1) := by decide +kernel
theorem dJ2_getChar_3b067_46 : decode cJ2_getChar_3b067 46 = .ok (.aload_n 0, 1) := by decide +kernel
theorem dJ2_getChar_3b067_47 : decode cJ2_getChar_3b067 47 = .ok (.iload_n 1, 1) := by decide +kernel
theorem dJ2_getChar_3b067_48 : decode cJ2_getChar_3b067 48 = .ok (.baload, 1) := by decide +kernel
theorem dJ2_getChar_3b067_49 : decode cJ2_getChar_3b067 49 = .ok (.sipush 255, 3) := by decide +kernel
theorem dJ2_getChar_3b067_52 : decode cJ2_getChar_3b067 52 = .ok (.iand, 1) := by decide +kernel
theorem dJ2_getChar_3b067_53 : decode cJ2_getChar_3b067 53 = .ok (.getstatic 63, 3) := by decide +kernel
theorem dJ2_getChar_3b067_56 : decode cJ2_getChar_3b067 56 = .ok (.ishl, 1) := by decide +kernel
theorem dJ2_getChar_3b067_57 : decode cJ2_getChar_3b067 57 = .ok (.ior, 1) := by decide +kernel
theorem dJ2_getChar_3b067_58 : decode cJ2_getChar_3b067 58 = .ok (.i2c, 1) := by decide +kernel
theorem dJ2_getChar_3b067_59 : decode cJ2_getChar_3b067 59 = .ok (.ireturn, 1) := by decide +kernel
theorem dJ2_length_9d52b_0 : decode cJ2_length_9d52b 0 = .ok (.aload_n 0, 1) := by decide +kernel
theorem dJ2_length_9d52b_1 : decode cJ2_length_9d52b 1 = .ok (.arraylength, 1) := by decide +kernel
theorem dJ2_length_9d52b_2 : decode cJ2_length_9d52b 2 = .ok (.iconst 1, 1) := by decide +kernel
theorem dJ2_length_9d52b_3 : decode cJ2_length_9d52b 3 = .ok (.ishr, 1) := by decide +kernel
theorem dJ2_length_9d52b_4 : decode cJ2_length_9d52b 4 = .ok (.ireturn, 1) := by decide +kernel
theorem dJ2_indexOf_4cfef_0 : decode cJ2_indexOf_4cfef 0 = .ok (.iload_n 2, 1) := by decide +kernel
theorem dJ2_indexOf_4cfef_1 : decode cJ2_indexOf_4cfef 1 = .ok (.iconst 0, 1) := by decide +kernel
theorem dJ2_indexOf_4cfef_2 : decode cJ2_indexOf_4cfef 2 = .ok (.invokestatic 224, 3) := by decide +kernel
theorem dJ2_indexOf_4cfef_5 : decode cJ2_indexOf_4cfef 5 = .ok (.istore_n 2, 1) := by decide +kernel
theorem dJ2_indexOf_4cfef_6 : decode cJ2_indexOf_4cfef 6 = .ok (.iload_n 3, 1) := by decide +kernel
theorem dJ2_indexOf_4cfef_7 : decode cJ2_indexOf_4cfef 7 = .ok (.aload_n 0, 1) := by decide +kernel
theorem dJ2_indexOf_4cfef_8 : decode cJ2_indexOf_4cfef 8 = .ok (.arraylength, 1) := by decide +kernel
theorem dJ2_indexOf_4cfef_9 : decode cJ2_indexOf_4cfef 9 = .ok (.iconst 1, 1) := by decide +kernel
theorem dJ2_indexOf_4cfef_10 : decode cJ2_indexOf_4cfef 10 = .ok (.ishr, 1) := by decide +kernel
theorem dJ2_indexOf_4cfef_11 : decode cJ2_indexOf_4cfef 11 = .ok (.invokestatic 183, 3) := by decide +kernel
theorem dJ2_indexOf_4cfef_14 : decode cJ2_indexOf_4cfef 14 = .ok (.istore_n 3, 1) := by decide +kernel
theorem dJ2_indexOf_4cfef_15 : decode cJ2_indexOf_4cfef 15 = .ok (.iload_n 2, 1) := by decide +kernel
theorem dJ2_indexOf_4cfef_16 : decode cJ2_indexOf_4cfef 16 = .ok (.iload_n 3, 1) := by decide +kernel
theorem dJ2_indexOf_4cfef_17 : decode cJ2_indexOf_4cfef 17 = .ok (.if_icmp .lt 5, 3) := by decide +kernel
theorem dJ2_indexOf_4cfef_20 : decode cJ2_indexOf_4cfef 20 = .ok (.iconst (-1), 1) := by decide +kernel
theorem dJ2_indexOf_4cfef_21 : decode cJ2_indexOf_4cfef 21 = .ok (.ireturn, 1) := by decide +kernel
theorem dJ2_indexOf_4cfef_22 : decode cJ2_indexOf_4cfef 22 = .ok (.iload_n 1, 1) := by decide +kernel
theorem dJ2_indexOf_4cfef_23 : decode cJ2_indexOf_4cfef 23 = .ok (.ldc 227, 2) := by decide +kernel
theorem dJ2_indexOf_4cfef_25 : decode cJ2_indexOf_4cfef 25 = .ok (.if_icmp .ge 11, 3) := by decide +kernel
theorem dJ2_indexOf_4cfef_28 : decode cJ2_indexOf_4cfef 28 = .ok (.aload_n 0, 1) := by decide +kernel
theorem dJ2_indexOf_4cfef_29 : decode cJ2_indexOf_4cfef 29 = .ok (.iload_n 1, 1) := by decide +kernel
theorem dJ2_indexOf_4cfef_30 : decode cJ2_indexOf_4cfef 30 = .ok (.iload_n 2, 1) := by decide +kernel
theorem dJ2_indexOf_4cfef_31 : decode cJ2_indexOf_4cfef 31 = .ok (.iload_n 3, 1) := by decide +kernel
theorem dJ2_indexOf_4cfef_32 : decode cJ2_indexOf_4cfef 32 = .ok (.invokestatic 228, 3) := by decide +kernel
theorem dJ2_indexOf_4cfef_35 : decode cJ2_indexOf_4cfef 35 = .ok (.ireturn, 1) := by decide +kernel
theorem dJ2_indexOf_4cfef_36 : decode cJ2_indexOf_4cfef 36 = .ok (.aload_n 0, 1) := by decide +kernel
theorem dJ2_indexOf_4cfef_37 : decode cJ2_indexOf_4cfef 37 = .ok (.iload_n 1, 1) := by decide +kernel
theorem dJ2_indexOf_4cfef_38 : decode cJ2_indexOf_4cfef 38 = .ok (.iload_n 2, 1) := by decide +kernel
theorem dJ2_indexOf_4cfef_39 : decode cJ2_indexOf_4cfef 39 = .ok (.iload_n 3, 1) := by decide +kernel
theorem dJ2_indexOf_4cfef_40 : decode cJ2_indexOf_4cfef 40 = .ok (.invokestatic 232, 3) := by decide +kernel
theorem dJ2_indexOf_4cfef_43 : decode cJ2_indexOf_4cfef 43 = .ok (.ireturn, 1) := by decide +kernel
theorem dJ2_indexOfChar_4cfef_0 : decode cJ2_indexOfChar_4cfef 0 = .ok (.iload_n 2, 1) := by decide +kernel
theorem dJ2_indexOfChar_4cfef_1 : decode cJ2_indexOfChar_4cfef 1 = .ok (.iload_n 3, 1) := by decide +kernel
theorem dJ2_indexOfChar_4cfef_2 : decode cJ2_indexOfChar_4cfef 2 = .ok (.aload_n 0, 1) := by decide +kernel
theorem dJ2_indexOfChar_4cfef_3 : decode cJ2_indexOfChar_4cfef 3 = .ok (.invokestatic 96, 3) := by decide +kernel
theorem dJ2_indexOfChar_4cfef_6 : decode cJ2_indexOfChar_4cfef 6 = .ok (.aload_n 0, 1) := by decide +kernel
theorem dJ2_indexOfChar_4cfef_7 : decode cJ2_indexOfChar_4cfef 7 = .ok (.iload_n 1, 1) := by decide +kernel
theorem dJ2_indexOfChar_4cfef_8 : decode cJ2_indexOfChar_4cfef 8 = .ok (.iload_n 2, 1) := by decide +kernel
theorem dJ2_indexOfChar_4cfef_9 : decode cJ2_indexOfChar_4cfef 9 = .ok (.iload_n 3, 1) := by decide +kernel
theorem dJ2_indexOfChar_4cfef_10 : decode cJ2_indexOfChar_4cfef 10 = .ok (.invokestatic 244, 3) := by decide +kernel
theorem dJ2_indexOfChar_4cfef_13 : decode cJ2_indexOfChar_4cfef 13 = .ok (.ireturn, 1) := by decide +kernel
theorem dJ2_indexOfCharUnsafe_4cfef_0 : decode cJ2_indexOfCharUnsafe_4cfef 0 = .ok (.iload_n 2, 1) := by decide +kernel
theorem dJ2_indexOfCharUnsafe_4cfef_1 : decode cJ2_indexOfCharUnsafe_4cfef 1 = .ok (.istore 4, 2) := by decide +kernel
theorem dJ2_indexOfCharUnsafe_4cfef_3 : decode cJ2_indexOfCharUnsafe_4cfef 3 = .ok (.iload 4, 2) := by decide +kernel
theorem dJ2_indexOfCharUnsafe_4cfef_5 : decode cJ2_indexOfCharUnsafe_4cfef 5 = .ok (.iload_n 3, 1) := by decide +kernel
theorem dJ2_indexOfCharUnsafe_4cfef_6 : decode cJ2_indexOfCharUnsafe_4cfef 6 = .ok (.if_icmp .ge 22, 3) := by decide +kernel
theorem dJ2_indexOfCharUnsafe_4cfef_9 : decode cJ2_indexOfCharUnsafe_4cfef 9 = .ok (.aload_n 0, 1) := by decide +kernel
theorem dJ2_indexOfCharUnsafe_4cfef_10 : decode cJ2_indexOfCharUnsafe_4cfef 10 = .ok (.iload 4, 2) := by decide +kernel
theorem dJ2_indexOfCharUnsafe_4cfef_12 : decode cJ2_indexOfCharUnsafe_4cfef 12 = .ok (.invokestatic 71, 3) := by decide +kernel
theorem dJ2_indexOfCharUnsafe_4cfef_15 : decode cJ2_indexOfCharUnsafe_4cfef 15 = .ok (.iload_n 1, 1) := by decide +kernel
theorem dJ2_indexOfCharUnsafe_4cfef_16 : decode cJ2_indexOfCharUnsafe_4cfef 16 = .ok (.if_icmp .ne 6, 3) := by decide +kernel
theorem dJ2_indexOfCharUnsafe_4cfef_19 : decode cJ2_indexOfCharUnsafe_4cfef 19 = .ok (.iload 4, 2) := by decide +kernel
theorem dJ2_indexOfCharUnsafe_4cfef_21 : decode cJ2_indexOfCharUnsafe_4cfef 21 = .ok (.ireturn, 1) := by decide +kernel
theorem dJ2_indexOfCharUnsafe_4cfef_22 : decode cJ2_indexOfCharUnsafe_4cfef 22 = .ok (.iinc 4 1, 3) := by decide +kernel
theorem dJ2_indexOfCharUnsafe_4cfef_25 : decode cJ2_indexOfCharUnsafe_4cfef 25 = .ok (.goto (-22), 3) := by decide +kernel
theorem dJ2_indexOfCharUnsafe_4cfef_28 : decode cJ2_indexOfCharUnsafe_4cfef 28 = .ok (.iconst (-1), 1) := by decide +kernel
theorem dJ2_indexOfCharUnsafe_4cfef_29 : decode cJ2_indexOfCharUnsafe_4cfef 29 = .ok (.ireturn, 1) := by decide +kernel
theorem dJ2_indexOfSupplementary_4cfef_0 : decode cJ2_indexOfSupplementary_4cfef 0 = .ok (.iload_n 1, 1) := by decide +kernel
theorem dJ2_indexOfSupplementary_4cfef_1 : decode cJ2_indexOfSupplementary_4cfef 1 = .ok (.invokestatic 164, 3) := by decide +kernel
theorem dJ2_indexOfSupplementary_4cfef_4 : decode cJ2_indexOfSupplementary_4cfef 4 = .ok (.ifCond .eq 65, 3) := by decide +kernel
theorem dJ2_indexOfSupplementary_4cfef_7 : decode cJ2_indexOfSupplementary_4cfef 7 = .ok (.iload_n 1, 1) := by decide +kernel
theorem dJ2_indexOfSupplementary_4cfef_8 : decode cJ2_indexOfSupplementary_4cfef 8 = .ok (.invokestatic 157, 3) := by decide +kernel
theorem dJ2_indexOfSupplementary_4cfef_11 : decode cJ2_indexOfSupplementary_4cfef 11 = .ok (.istore 4, 2) := by decide +kernel
theorem dJ2_indexOfSupplementary_4cfef_13 : decode cJ2_indexOfSupplementary_4cfef 13 = .ok (.iload_n 1, 1) := by decide +kernel
theorem dJ2_indexOfSupplementary_4cfef_14 : decode cJ2_indexOfSupplementary_4cfef 14 = .ok (.invokestatic 161, 3) := by decide +kernel
theorem dJ2_indexOfSupplementary_4cfef_17 : decode cJ2_indexOfSupplementary_4cfef 17 = .ok (.istore 5, 2) := by decide +kernel
theorem dJ2_indexOfSupplementary_4cfef_19 : decode cJ2_indexOfSupplementary_4cfef 19 = .ok (.iload_n 2, 1) := by decide +kernel
theorem dJ2_indexOfSupplementary_4cfef_20 : decode cJ2_indexOfSupplementary_4cfef 20 = .ok (.iload_n 3, 1) := by decide +kernel
theorem dJ2_indexOfSupplementary_4cfef_21 : decode cJ2_indexOfSupplementary_4cfef 21 = .ok (.aload_n 0, 1) := by decide +kernel
theorem dJ2_indexOfSupplementary_4cfef_22 : decode cJ2_indexOfSupplementary_4cfef 22 = .ok (.invokestatic 96, 3) := by decide +kernel
theorem dJ2_indexOfSupplementary_4cfef_25 : decode cJ2_indexOfSupplementary_4cfef 25 = .ok (.iload_n 2, 1) := by decide +kernel
theorem dJ2_indexOfSupplementary_4cfef_26 : decode cJ2_indexOfSupplementary_4cfef 26 = .ok (.istore 6, 2) := by decide +kernel
theorem dJ2_indexOfSupplementary_4cfef_28 : decode cJ2_indexOfSupplementary_4cfef 28 = .ok (.iload 6, 2) := by decide +kernel
theorem dJ2_indexOfSupplementary_4cfef_30 : decode cJ2_indexOfSupplementary_4cfef 30 = .ok (.iload_n 3, 1) := by decide +kernel
theorem dJ2_indexOfSupplementary_4cfef_31 : decode cJ2_indexOfSupplementary_4cfef 31 = .ok (.iconst 1, 1) := by decide +kernel
theorem dJ2_indexOfSupplementary_4cfef_32 : decode cJ2_indexOfSupplementary_4cfef 32 = .ok (.isub, 1) := by decide +kernel
theorem dJ2_indexOfSupplementary_4cfef_33 : decode cJ2_indexOfSupplementary_4cfef 33 = .ok (.if_icmp .ge 36, 3) := by decide +kernel
theorem dJ2_indexOfSupplementary_4cfef_36 : decode cJ2_indexOfSupplementary_4cfef 36 = .ok (.aload_n 0, 1) := by decide +kernel
theorem dJ2_indexOfSupplementary_4cfef_37 : decode cJ2_indexOfSupplementary_4cfef 37 = .ok (.iload 6, 2) := by decide +kernel
theorem dJ2_indexOfSupplementary_4cfef_39 : decode cJ2_indexOfSupplementary_4cfef 39 = .ok (.invokestatic 71, 3) := by decide +kernel
theorem dJ2_indexOfSupplementary_4cfef_42 : decode cJ2_indexOfSupplementary_4cfef 42 = .ok (.iload 4, 2) := by decide +kernel
theorem dJ2_indexOfSupplementary_4cfef_44 : decode cJ2_indexOfSupplementary_4cfef 44 = .ok (.if_icmp .ne 19, 3) := by decide +kernel
theorem dJ2_indexOfSupplementary_4cfef_47 : decode cJ2_indexOfSupplementary_4cfef 47 = .ok (.aload_n 0, 1) := by decide +kernel
theorem dJ2_indexOfSupplementary_4cfef_48 : decode cJ2_indexOfSupplementary_4cfef 48 = .ok (.iload 6, 2) := by decide +kernel
theorem dJ2_indexOfSupplementary_4cfef_50 : decode cJ2_indexOfSupplementary_4cfef 50 = .ok (.iconst 1, 1) := by decide +kernel
theorem dJ2_indexOfSupplementary_4cfef_51 : decode cJ2_indexOfSupplementary_4cfef 51 = .ok (.iadd, 1) := by decide +kernel
theorem dJ2_indexOfSupplementary_4cfef_52 : decode cJ2_indexOfSupplementary_4cfef 52 = .ok (.invokestatic 71, 3) := by decide +kernel
theorem dJ2_indexOfSupplementary_4cfef_55 : decode cJ2_indexOfSupplementary_4cfef 55 = .ok (.iload 5, 2) := by decide +kernel
theorem dJ2_indexOfSupplementary_4cfef_57 : decode cJ2_indexOfSupplementary_4cfef 57 = .ok (.if_icmp .ne 6, 3) := by decide +kernel
theorem dJ2_indexOfSupplementary_4cfef_60 : decode cJ2_indexOfSupplementary_4cfef 60 = .ok (.iload 6, 2) := by decide +kernel
theorem dJ2_indexOfSupplementary_4cfef_62 : decode cJ2_indexOfSupplementary_4cfef 62 = .ok (.ireturn, 1) := by decide +kernel
theorem dJ2_indexOfSupplementary_4cfef_63 : decode cJ2_indexOfSupplementary_4cfef 63 = .ok (.iinc 6 1, 3) := by decide +kernel
theorem dJ2_indexOfSupplementary_4cfef_66 : decode cJ2_indexOfSupplementary_4cfef 66 = .ok (.goto (-38), 3) := by decide +kernel
theorem dJ2_indexOfSupplementary_4cfef_69 : decode cJ2_indexOfSupplementary_4cfef 69 = .ok (.iconst (-1), 1) := by decide +kernel
theorem dJ2_indexOfSupplementary_4cfef_70 : decode cJ2_indexOfSupplementary_4cfef 70 = .ok (.ireturn, 1) := by decide +kernel
theorem dJ2_charAt_3b067_0 : decode cJ2_charAt_3b067 0 = .ok (.iload_n 1, 1) := by decide +kernel
theorem dJ2_charAt_3b067_1 : decode cJ2_charAt_3b067 1 = .ok (.aload_n 0, 1) := by decide +kernel
theorem dJ2_charAt_3b067_2 : decode cJ2_charAt_3b067 2 = .ok (.invokestatic 67, 3) := by decide +kernel
theorem dJ2_charAt_3b067_5 : decode cJ2_charAt_3b067 5 = .ok (.aload_n 0, 1) := by decide +kernel
theorem dJ2_charAt_3b067_6 : decode cJ2_charAt_3b067 6 = .ok (.iload_n 1, 1) := by decide +kernel
theorem dJ2_charAt_3b067_7 : decode cJ2_charAt_3b067 7 = .ok (.invokestatic 71, 3) := by decide +kernel
theorem dJ2_charAt_3b067_10 : decode cJ2_charAt_3b067 10 = .ok (.ireturn, 1) := by decide +kernel
theorem dJ2_checkIndex_2214a_0 : decode cJ2_checkIndex_2214a 0 = .ok (.iload_n 0, 1) := by decide +kernel
theorem dJ2_checkIndex_2214a_1 : decode cJ2_checkIndex_2214a 1 = .ok (.aload_n 1, 1) := by decide +kernel
theorem dJ2_checkIndex_2214a_2 : decode cJ2_checkIndex_2214a 2 = .ok (.invokestatic 48, 3) := by decide +kernel
theorem dJ2_checkIndex_2214a_5 : decode cJ2_checkIndex_2214a 5 = .ok (.invokestatic 414, 3) := by decide +kernel
theorem dJ2_checkIndex_2214a_8 : decode cJ2_checkIndex_2214a 8 = .ok (.return_, 1) := by decide +kernel
theorem dJ2_checkBoundsBeginEnd_d044e_0 : decode cJ2_checkBoundsBeginEnd_d044e 0 = .ok (.iload_n 0, 1) := by decide +kernel
theorem dJ2_checkBoundsBeginEnd_d044e_1 : decode cJ2_checkBoundsBeginEnd_d044e 1 = .ok (.iload_n 1, 1) := by decide +kernel
theorem dJ2_checkBoundsBeginEnd_d044e_2 : decode cJ2_checkBoundsBeginEnd_d044e 2 = .ok (.aload_n 2, 1) := by decide +kernel
theorem dJ2_checkBoundsBeginEnd_d044e_3 : decode cJ2_checkBoundsBeginEnd_d044e 3 = .ok (.invokestatic 48, 3) := by decide +kernel
theorem dJ2_checkBoundsBeginEnd_d044e_6 : decode cJ2_checkBoundsBeginEnd_d044e 6 = .ok (.invokestatic 241, 3) := by decide +kernel
theorem dJ2_checkBoundsBeginEnd_d044e_9 : decode cJ2_checkBoundsBeginEnd_d044e 9 = .ok (.return_, 1) := by decide +kernel
theorem dJ3_checkIndex_8e157_0 : decode cJ3_checkIndex_8e157 0 = .ok (.iload_n 0, 1) := by decide +kernel
theorem dJ3_checkIndex_8e157_1 : decode cJ3_checkIndex_8e157 1 = .ok (.ifCond .lt 8, 3) := by decide +kernel
theorem dJ3_checkIndex_8e157_4 : decode cJ3_checkIndex_8e157 4 = .ok (.iload_n 0, 1) := by decide +kernel
theorem dJ3_checkIndex_8e157_5 : decode cJ3_checkIndex_8e157 5 = .ok (.iload_n 1, 1) := by decide +kernel
theorem dJ3_checkIndex_8e157_6 : decode cJ3_checkIndex_8e157 6 = .ok (.if_icmp .lt 10, 3) := by decide +kernel
theorem dJ3_checkIndex_8e157_9 : decode cJ3_checkIndex_8e157 9 = .ok (.aload_n 2, 1) := by decide +kernel
theorem dJ3_checkIndex_8e157_10 : decode cJ3_checkIndex_8e157 10 = .ok (.iload_n 0, 1) := by decide +kernel
theorem dJ3_checkIndex_8e157_11 : decode cJ3_checkIndex_8e157 11 = .ok (.iload_n 1, 1) := by decide +kernel
theorem dJ3_checkIndex_8e157_12 : decode cJ3_checkIndex_8e157 12 = .ok (.invokestatic 95, 3) := by decide +kernel
theorem dJ3_checkIndex_8e157_15 : decode cJ3_checkIndex_8e157 15 = .ok (.athrow, 1) := by decide +kernel
theorem dJ3_checkIndex_8e157_16 : decode cJ3_checkIndex_8e157 16 = .ok (.iload_n 0, 1) := by decide +kernel
theorem dJ3_checkIndex_8e157_17 : decode cJ3_checkIndex_8e157 17 = .ok (.ireturn, 1) := by decide +kernel
theorem dJ3_checkFromToIndex_8c36e_0 : decode cJ3_checkFromToIndex_8c36e 0 = .ok (.iload_n 0, 1) := by decide +kernel
theorem dJ3_checkFromToIndex_8c36e_1 : decode cJ3_checkFromToIndex_8c36e 1 = .ok (.ifCond .lt 13, 3) := by decide +kernel
theorem dJ3_checkFromToIndex_8c36e_4 : decode cJ3_checkFromToIndex_8c36e 4 = .ok (.iload_n 0, 1) := by decide +kernel
theorem dJ3_checkFromToIndex_8c36e_5 : decode cJ3_checkFromToIndex_8c36e 5 = .ok (.iload_n 1, 1) := by decide +kernel
theorem dJ3_checkFromToIndex_8c36e_6 : decode cJ3_checkFromToIndex_8c36e 6 = .ok (.if_icmp .gt 8, 3) := by decide +kernel
theorem dJ3_checkFromToIndex_8c36e_9 : decode cJ3_checkFromToIndex_8c36e 9 = .ok (.iload_n 1, 1) := by decide +kernel
theorem dJ3_checkFromToIndex_8c36e_10 : decode cJ3_checkFromToIndex_8c36e 10 = .ok (.iload_n 2, 1) := by decide +kernel
theorem dJ3_checkFromToIndex_8c36e_11 : decode cJ3_checkFromToIndex_8c36e 11 = .ok (.if_icmp .le 11, 3) := by decide +kernel
theorem dJ3_checkFromToIndex_8c36e_14 : decode cJ3_checkFromToIndex_8c36e 14 = .ok (.aload_n 3, 1) := by decide +kernel
theorem dJ3_checkFromToIndex_8c36e_15 : decode cJ3_checkFromToIndex_8c36e 15 = .ok (.iload_n 0, 1) := by decide +kernel
theorem dJ3_checkFromToIndex_8c36e_16 : decode cJ3_checkFromToIndex_8c36e 16 = .ok (.iload_n 1, 1) := by decide +kernel
theorem dJ3_checkFromToIndex_8c36e_17 : decode cJ3_checkFromToIndex_8c36e 17 = .ok (.iload_n 2, 1) := by decide +kernel
theorem dJ3_checkFromToIndex_8c36e_18 : decode cJ3_checkFromToIndex_8c36e 18 = .ok (.invokestatic 99, 3) := by decide +kernel
theorem dJ3_checkFromToIndex_8c36e_21 : decode cJ3_checkFromToIndex_8c36e 21 = .ok (.athrow, 1) := by decide +kernel
theorem dJ3_checkFromToIndex_8c36e_22 : decode cJ3_checkFromToIndex_8c36e 22 = .ok (.iload_n 0, 1) := by decide +kernel
theorem dJ3_checkFromToIndex_8c36e_23 : decode cJ3_checkFromToIndex_8c36e 23 = .ok (.ireturn, 1) := by decide +kernel
