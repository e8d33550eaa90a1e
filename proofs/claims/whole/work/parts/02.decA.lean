theorem dX0_init_0 : decode cX0_init 0 = .ok (.aload_n 0, 1) := by decide +kernel
theorem dX0_init_1 : decode cX0_init 1 = .ok (.invokespecial 3, 3) := by decide +kernel
theorem dX0_init_4 : decode cX0_init 4 = .ok (.aload_n 0, 1) := by decide +kernel
theorem dX0_init_5 : decode cX0_init 5 = .ok (.sipush 651, 3) := by decide +kernel
theorem dX0_init_8 : decode cX0_init 8 = .ok (.newarray .int, 2) := by decide +kernel
theorem dX0_init_10 : decode cX0_init 10 = .ok (.putfield 11, 3) := by decide +kernel
theorem dX0_init_13 : decode cX0_init 13 = .ok (.return_, 1) := by decide +kernel
theorem dX0_empty_0 : decode cX0_empty 0 = .ok (.aload_n 0, 1) := by decide +kernel
theorem dX0_empty_1 : decode cX0_empty 1 = .ok (.iconst 0, 1) := by decide +kernel
theorem dX0_empty_2 : decode cX0_empty 2 = .ok (.putfield 15, 3) := by decide +kernel
theorem dX0_empty_5 : decode cX0_empty 5 = .ok (.return_, 1) := by decide +kernel
theorem dX0_addRow_0 : decode cX0_addRow 0 = .ok (.aload_n 0, 1) := by decide +kernel
theorem dX0_addRow_1 : decode cX0_addRow 1 = .ok (.getfield 15, 3) := by decide +kernel
theorem dX0_addRow_4 : decode cX0_addRow 4 = .ok (.bipush 31, 2) := by decide +kernel
theorem dX0_addRow_6 : decode cX0_addRow 6 = .ok (.if_icmp .lt 4, 3) := by decide +kernel
theorem dX0_addRow_9 : decode cX0_addRow 9 = .ok (.return_, 1) := by decide +kernel
theorem dX0_addRow_10 : decode cX0_addRow 10 = .ok (.iconst 0, 1) := by decide +kernel
theorem dX0_addRow_11 : decode cX0_addRow 11 = .ok (.istore_n 3, 1) := by decide +kernel
theorem dX0_addRow_12 : decode cX0_addRow 12 = .ok (.iload_n 3, 1) := by decide +kernel
theorem dX0_addRow_13 : decode cX0_addRow 13 = .ok (.iload_n 2, 1) := by decide +kernel
theorem dX0_addRow_14 : decode cX0_addRow 14 = .ok (.if_icmp .gt 45, 3) := by decide +kernel
theorem dX0_addRow_17 : decode cX0_addRow 17 = .ok (.iload_n 3, 1) := by decide +kernel
theorem dX0_addRow_18 : decode cX0_addRow 18 = .ok (.bipush 21, 2) := by decide +kernel
theorem dX0_addRow_20 : decode cX0_addRow 20 = .ok (.if_icmp .ge 39, 3) := by decide +kernel
theorem dX0_addRow_23 : decode cX0_addRow 23 = .ok (.aload_n 0, 1) := by decide +kernel
theorem dX0_addRow_24 : decode cX0_addRow 24 = .ok (.getfield 11, 3) := by decide +kernel
theorem dX0_addRow_27 : decode cX0_addRow 27 = .ok (.aload_n 0, 1) := by decide +kernel
theorem dX0_addRow_28 : decode cX0_addRow 28 = .ok (.getfield 15, 3) := by decide +kernel
theorem dX0_addRow_31 : decode cX0_addRow 31 = .ok (.bipush 21, 2) := by decide +kernel
theorem dX0_addRow_33 : decode cX0_addRow 33 = .ok (.imul, 1) := by decide +kernel
theorem dX0_addRow_34 : decode cX0_addRow 34 = .ok (.iload_n 3, 1) := by decide +kernel
theorem dX0_addRow_35 : decode cX0_addRow 35 = .ok (.iadd, 1) := by decide +kernel
theorem dX0_addRow_36 : decode cX0_addRow 36 = .ok (.aload_n 1, 1) := by decide +kernel
theorem dX0_addRow_37 : decode cX0_addRow 37 = .ok (.getfield 19, 3) := by decide +kernel
theorem dX0_addRow_40 : decode cX0_addRow 40 = .ok (.iastore, 1) := by decide +kernel
theorem dX0_addRow_41 : decode cX0_addRow 41 = .ok (.aload_n 1, 1) := by decide +kernel
theorem dX0_addRow_42 : decode cX0_addRow 42 = .ok (.aload_n 1, 1) := by decide +kernel
theorem dX0_addRow_43 : decode cX0_addRow 43 = .ok (.invokevirtual 24, 3) := by decide +kernel
theorem dX0_addRow_46 : decode cX0_addRow 46 = .ok (.aload_n 1, 1) := by decide +kernel
theorem dX0_addRow_47 : decode cX0_addRow 47 = .ok (.getfield 28, 3) := by decide +kernel
theorem dX0_addRow_50 : decode cX0_addRow 50 = .ok (.invokevirtual 31, 3) := by decide +kernel
theorem dX0_addRow_53 : decode cX0_addRow 53 = .ok (.iinc 3 1, 3) := by decide +kernel
theorem dX0_addRow_56 : decode cX0_addRow 56 = .ok (.goto (-44), 3) := by decide +kernel
theorem dX0_addRow_59 : decode cX0_addRow 59 = .ok (.aload_n 0, 1) := by decide +kernel
theorem dX0_addRow_60 : decode cX0_addRow 60 = .ok (.dup, 1) := by decide +kernel
theorem dX0_addRow_61 : decode cX0_addRow 61 = .ok (.getfield 15, 3) := by decide +kernel
theorem dX0_addRow_64 : decode cX0_addRow 64 = .ok (.iconst 1, 1) := by decide +kernel
theorem dX0_addRow_65 : decode cX0_addRow 65 = .ok (.iadd, 1) := by decide +kernel
theorem dX0_addRow_66 : decode cX0_addRow 66 = .ok (.putfield 15, 3) := by decide +kernel
theorem dX0_addRow_69 : decode cX0_addRow 69 = .ok (.return_, 1) := by decide +kernel
theorem dX0_sorrowOf_0 : decode cX0_sorrowOf 0 = .ok (.aload_n 0, 1) := by decide +kernel
theorem dX0_sorrowOf_1 : decode cX0_sorrowOf 1 = .ok (.getfield 11, 3) := by decide +kernel
theorem dX0_sorrowOf_4 : decode cX0_sorrowOf 4 = .ok (.iload_n 1, 1) := by decide +kernel
theorem dX0_sorrowOf_5 : decode cX0_sorrowOf 5 = .ok (.bipush 21, 2) := by decide +kernel
theorem dX0_sorrowOf_7 : decode cX0_sorrowOf 7 = .ok (.imul, 1) := by decide +kernel
theorem dX0_sorrowOf_8 : decode cX0_sorrowOf 8 = .ok (.iload_n 2, 1) := by decide +kernel
theorem dX0_sorrowOf_9 : decode cX0_sorrowOf 9 = .ok (.iadd, 1) := by decide +kernel
theorem dX0_sorrowOf_10 : decode cX0_sorrowOf 10 = .ok (.iaload, 1) := by decide +kernel
theorem dX0_sorrowOf_11 : decode cX0_sorrowOf 11 = .ok (.ireturn, 1) := by decide +kernel
theorem dX0_leftAtWorst_0 : decode cX0_leftAtWorst 0 = .ok (.iconst 0, 1) := by decide +kernel
theorem dX0_leftAtWorst_1 : decode cX0_leftAtWorst 1 = .ok (.istore_n 3, 1) := by decide +kernel
theorem dX0_leftAtWorst_2 : decode cX0_leftAtWorst 2 = .ok (.iconst 0, 1) := by decide +kernel
theorem dX0_leftAtWorst_3 : decode cX0_leftAtWorst 3 = .ok (.istore 4, 2) := by decide +kernel
theorem dX0_leftAtWorst_5 : decode cX0_leftAtWorst 5 = .ok (.iload 4, 2) := by decide +kernel
theorem dX0_leftAtWorst_7 : decode cX0_leftAtWorst 7 = .ok (.aload_n 0, 1) := by decide +kernel
theorem dX0_leftAtWorst_8 : decode cX0_leftAtWorst 8 = .ok (.getfield 15, 3) := by decide +kernel
theorem dX0_leftAtWorst_11 : decode cX0_leftAtWorst 11 = .ok (.if_icmp .ge 22, 3) := by decide +kernel
theorem dX0_leftAtWorst_14 : decode cX0_leftAtWorst 14 = .ok (.iload_n 3, 1) := by decide +kernel
theorem dX0_leftAtWorst_15 : decode cX0_leftAtWorst 15 = .ok (.aload_n 0, 1) := by decide +kernel
theorem dX0_leftAtWorst_16 : decode cX0_leftAtWorst 16 = .ok (.iload 4, 2) := by decide +kernel
theorem dX0_leftAtWorst_18 : decode cX0_leftAtWorst 18 = .ok (.iload_n 1, 1) := by decide +kernel
theorem dX0_leftAtWorst_19 : decode cX0_leftAtWorst 19 = .ok (.iload_n 2, 1) := by decide +kernel
theorem dX0_leftAtWorst_20 : decode cX0_leftAtWorst 20 = .ok (.invokevirtual 35, 3) := by decide +kernel
theorem dX0_leftAtWorst_23 : decode cX0_leftAtWorst 23 = .ok (.invokestatic 39, 3) := by decide +kernel
theorem dX0_leftAtWorst_26 : decode cX0_leftAtWorst 26 = .ok (.istore_n 3, 1) := by decide +kernel
theorem dX0_leftAtWorst_27 : decode cX0_leftAtWorst 27 = .ok (.iinc 4 1, 3) := by decide +kernel
theorem dX0_leftAtWorst_30 : decode cX0_leftAtWorst 30 = .ok (.goto (-25), 3) := by decide +kernel
theorem dX0_leftAtWorst_33 : decode cX0_leftAtWorst 33 = .ok (.iload_n 3, 1) := by decide +kernel
theorem dX0_leftAtWorst_34 : decode cX0_leftAtWorst 34 = .ok (.ireturn, 1) := by decide +kernel
theorem dX0_alikeFrom_0 : decode cX0_alikeFrom 0 = .ok (.iconst 0, 1) := by decide +kernel
theorem dX0_alikeFrom_1 : decode cX0_alikeFrom 1 = .ok (.istore 4, 2) := by decide +kernel
theorem dX0_alikeFrom_3 : decode cX0_alikeFrom 3 = .ok (.iload_n 1, 1) := by decide +kernel
theorem dX0_alikeFrom_4 : decode cX0_alikeFrom 4 = .ok (.istore 5, 2) := by decide +kernel
theorem dX0_alikeFrom_6 : decode cX0_alikeFrom 6 = .ok (.iload 5, 2) := by decide +kernel
theorem dX0_alikeFrom_8 : decode cX0_alikeFrom 8 = .ok (.aload_n 0, 1) := by decide +kernel
theorem dX0_alikeFrom_9 : decode cX0_alikeFrom 9 = .ok (.getfield 15, 3) := by decide +kernel
theorem dX0_alikeFrom_12 : decode cX0_alikeFrom 12 = .ok (.if_icmp .ge 56, 3) := by decide +kernel
theorem dX0_alikeFrom_15 : decode cX0_alikeFrom 15 = .ok (.iload_n 2, 1) := by decide +kernel
theorem dX0_alikeFrom_16 : decode cX0_alikeFrom 16 = .ok (.iload 5, 2) := by decide +kernel
theorem dX0_alikeFrom_18 : decode cX0_alikeFrom 18 = .ok (.ishr, 1) := by decide +kernel
theorem dX0_alikeFrom_19 : decode cX0_alikeFrom 19 = .ok (.iconst 1, 1) := by decide +kernel
theorem dX0_alikeFrom_20 : decode cX0_alikeFrom 20 = .ok (.iand, 1) := by decide +kernel
theorem dX0_alikeFrom_21 : decode cX0_alikeFrom 21 = .ok (.ifCond .eq 23, 3) := by decide +kernel
theorem dX0_alikeFrom_24 : decode cX0_alikeFrom 24 = .ok (.aload_n 0, 1) := by decide +kernel
theorem dX0_alikeFrom_25 : decode cX0_alikeFrom 25 = .ok (.iload 5, 2) := by decide +kernel
theorem dX0_alikeFrom_27 : decode cX0_alikeFrom 27 = .ok (.iload_n 3, 1) := by decide +kernel
theorem dX0_alikeFrom_28 : decode cX0_alikeFrom 28 = .ok (.invokevirtual 45, 3) := by decide +kernel
theorem dX0_alikeFrom_31 : decode cX0_alikeFrom 31 = .ok (.aload_n 0, 1) := by decide +kernel
theorem dX0_alikeFrom_32 : decode cX0_alikeFrom 32 = .ok (.iload_n 1, 1) := by decide +kernel
theorem dX0_alikeFrom_33 : decode cX0_alikeFrom 33 = .ok (.iload_n 3, 1) := by decide +kernel
theorem dX0_alikeFrom_34 : decode cX0_alikeFrom 34 = .ok (.invokevirtual 45, 3) := by decide +kernel
theorem dX0_alikeFrom_37 : decode cX0_alikeFrom 37 = .ok (.if_icmp .ne 7, 3) := by decide +kernel
theorem dX0_alikeFrom_40 : decode cX0_alikeFrom 40 = .ok (.iconst 1, 1) := by decide +kernel
theorem dX0_alikeFrom_41 : decode cX0_alikeFrom 41 = .ok (.goto 4, 3) := by decide +kernel
theorem dX0_alikeFrom_44 : decode cX0_alikeFrom 44 = .ok (.iconst 0, 1) := by decide +kernel
theorem dX0_alikeFrom_45 : decode cX0_alikeFrom 45 = .ok (.istore 6, 2) := by decide +kernel
theorem dX0_alikeFrom_47 : decode cX0_alikeFrom 47 = .ok (.iload 4, 2) := by decide +kernel
theorem dX0_alikeFrom_49 : decode cX0_alikeFrom 49 = .ok (.iload 6, 2) := by decide +kernel
theorem dX0_alikeFrom_51 : decode cX0_alikeFrom 51 = .ok (.ifCond .eq 7, 3) := by decide +kernel
theorem dX0_alikeFrom_54 : decode cX0_alikeFrom 54 = .ok (.iconst 1, 1) := by decide +kernel
theorem dX0_alikeFrom_55 : decode cX0_alikeFrom 55 = .ok (.goto 4, 3) := by decide +kernel
theorem dX0_alikeFrom_58 : decode cX0_alikeFrom 58 = .ok (.iconst 0, 1) := by decide +kernel
theorem dX0_alikeFrom_59 : decode cX0_alikeFrom 59 = .ok (.iadd, 1) := by decide +kernel
theorem dX0_alikeFrom_60 : decode cX0_alikeFrom 60 = .ok (.istore 4, 2) := by decide +kernel
theorem dX0_alikeFrom_62 : decode cX0_alikeFrom 62 = .ok (.iinc 5 1, 3) := by decide +kernel
theorem dX0_alikeFrom_65 : decode cX0_alikeFrom 65 = .ok (.goto (-59), 3) := by decide +kernel
theorem dX0_alikeFrom_68 : decode cX0_alikeFrom 68 = .ok (.iload 4, 2) := by decide +kernel
theorem dX0_alikeFrom_70 : decode cX0_alikeFrom 70 = .ok (.ireturn, 1) := by decide +kernel
theorem dX1_init_0 : decode cX1_init 0 = .ok (.aload_n 0, 1) := by decide +kernel
theorem dX1_init_1 : decode cX1_init 1 = .ok (.invokespecial 3, 3) := by decide +kernel
theorem dX1_init_4 : decode cX1_init 4 = .ok (.aload_n 0, 1) := by decide +kernel
theorem dX1_init_5 : decode cX1_init 5 = .ok (.new 9, 3) := by decide +kernel
theorem dX1_init_8 : decode cX1_init 8 = .ok (.dup, 1) := by decide +kernel
theorem dX1_init_9 : decode cX1_init 9 = .ok (.invokespecial 11, 3) := by decide +kernel
theorem dX1_init_12 : decode cX1_init 12 = .ok (.putfield 12, 3) := by decide +kernel
theorem dX1_init_15 : decode cX1_init 15 = .ok (.aload_n 0, 1) := by decide +kernel
theorem dX1_init_16 : decode cX1_init 16 = .ok (.new 18, 3) := by decide +kernel
theorem dX1_init_19 : decode cX1_init 19 = .ok (.dup, 1) := by decide +kernel
theorem dX1_init_20 : decode cX1_init 20 = .ok (.invokespecial 20, 3) := by decide +kernel
theorem dX1_init_23 : decode cX1_init 23 = .ok (.putfield 21, 3) := by decide +kernel
theorem dX1_init_26 : decode cX1_init 26 = .ok (.aload_n 0, 1) := by decide +kernel
theorem dX1_init_27 : decode cX1_init 27 = .ok (.iconst 3, 1) := by decide +kernel
theorem dX1_init_28 : decode cX1_init 28 = .ok (.newarray .int, 2) := by decide +kernel
theorem dX1_init_30 : decode cX1_init 30 = .ok (.putfield 25, 3) := by decide +kernel
theorem dX1_init_33 : decode cX1_init 33 = .ok (.return_, 1) := by decide +kernel
theorem dX1_readLines_0 : decode cX1_readLines 0 = .ok (.aload_n 0, 1) := by decide +kernel
theorem dX1_readLines_1 : decode cX1_readLines 1 = .ok (.getfield 21, 3) := by decide +kernel
theorem dX1_readLines_4 : decode cX1_readLines 4 = .ok (.invokevirtual 29, 3) := by decide +kernel
theorem dX1_readLines_7 : decode cX1_readLines 7 = .ok (.aload_n 0, 1) := by decide +kernel
theorem dX1_readLines_8 : decode cX1_readLines 8 = .ok (.iconst 0, 1) := by decide +kernel
theorem dX1_readLines_9 : decode cX1_readLines 9 = .ok (.putfield 32, 3) := by decide +kernel
theorem dX1_readLines_12 : decode cX1_readLines 12 = .ok (.aload_n 0, 1) := by decide +kernel
theorem dX1_readLines_13 : decode cX1_readLines 13 = .ok (.iconst 0, 1) := by decide +kernel
theorem dX1_readLines_14 : decode cX1_readLines 14 = .ok (.putfield 36, 3) := by decide +kernel
theorem dX1_readLines_17 : decode cX1_readLines 17 = .ok (.aload_n 0, 1) := by decide +kernel
theorem dX1_readLines_18 : decode cX1_readLines 18 = .ok (.iconst 0, 1) := by decide +kernel
theorem dX1_readLines_19 : decode cX1_readLines 19 = .ok (.putfield 40, 3) := by decide +kernel
theorem dX1_readLines_22 : decode cX1_readLines 22 = .ok (.aload_n 0, 1) := by decide +kernel
theorem dX1_readLines_23 : decode cX1_readLines 23 = .ok (.iconst 0, 1) := by decide +kernel
theorem dX1_readLines_24 : decode cX1_readLines 24 = .ok (.putfield 43, 3) := by decide +kernel
theorem dX1_readLines_27 : decode cX1_readLines 27 = .ok (.aload_n 0, 1) := by decide +kernel
theorem dX1_readLines_28 : decode cX1_readLines 28 = .ok (.iconst 0, 1) := by decide +kernel
theorem dX1_readLines_29 : decode cX1_readLines 29 = .ok (.putfield 46, 3) := by decide +kernel
theorem dX1_readLines_32 : decode cX1_readLines 32 = .ok (.aload_n 0, 1) := by decide +kernel
theorem dX1_readLines_33 : decode cX1_readLines 33 = .ok (.iconst 0, 1) := by decide +kernel
theorem dX1_readLines_34 : decode cX1_readLines 34 = .ok (.putfield 49, 3) := by decide +kernel
theorem dX1_readLines_37 : decode cX1_readLines 37 = .ok (.iconst 0, 1) := by decide +kernel
theorem dX1_readLines_38 : decode cX1_readLines 38 = .ok (.istore_n 1, 1) := by decide +kernel
theorem dX1_readLines_39 : decode cX1_readLines 39 = .ok (.iload_n 1, 1) := by decide +kernel
theorem dX1_readLines_40 : decode cX1_readLines 40 = .ok (.aload_n 0, 1) := by decide +kernel
theorem dX1_readLines_41 : decode cX1_readLines 41 = .ok (.getfield 12, 3) := by decide +kernel
theorem dX1_readLines_44 : decode cX1_readLines 44 = .ok (.getfield 52, 3) := by decide +kernel
theorem dX1_readLines_47 : decode cX1_readLines 47 = .ok (.if_icmp .gt 30, 3) := by decide +kernel
theorem dX1_readLines_50 : decode cX1_readLines 50 = .ok (.aload_n 0, 1) := by decide +kernel
theorem dX1_readLines_51 : decode cX1_readLines 51 = .ok (.invokevirtual 55, 3) := by decide +kernel
theorem dX1_readLines_54 : decode cX1_readLines 54 = .ok (.ifCond .eq 23, 3) := by decide +kernel
theorem dX1_readLines_57 : decode cX1_readLines 57 = .ok (.aload_n 0, 1) := by decide +kernel
theorem dX1_readLines_58 : decode cX1_readLines 58 = .ok (.getfield 59, 3) := by decide +kernel
theorem dX1_readLines_61 : decode cX1_readLines 61 = .ok (.ifCond .eq 16, 3) := by decide +kernel
theorem dX1_readLines_64 : decode cX1_readLines 64 = .ok (.aload_n 0, 1) := by decide +kernel
theorem dX1_readLines_65 : decode cX1_readLines 65 = .ok (.invokevirtual 62, 3) := by decide +kernel
theorem dX1_readLines_68 : decode cX1_readLines 68 = .ok (.ifCond .eq 9, 3) := by decide +kernel
theorem dX1_readLines_71 : decode cX1_readLines 71 = .ok (.iinc 1 1, 3) := by decide +kernel
theorem dX1_readLines_74 : decode cX1_readLines 74 = .ok (.goto (-35), 3) := by decide +kernel
theorem dX1_readLines_77 : decode cX1_readLines 77 = .ok (.aload_n 0, 1) := by decide +kernel
theorem dX1_readLines_78 : decode cX1_readLines 78 = .ok (.getfield 46, 3) := by decide +kernel
theorem dX1_readLines_81 : decode cX1_readLines 81 = .ok (.ifCond .ne 27, 3) := by decide +kernel
theorem dX1_readLines_84 : decode cX1_readLines 84 = .ok (.aload_n 0, 1) := by decide +kernel
theorem dX1_readLines_85 : decode cX1_readLines 85 = .ok (.getfield 21, 3) := by decide +kernel
theorem dX1_readLines_88 : decode cX1_readLines 88 = .ok (.invokevirtual 65, 3) := by decide +kernel
theorem dX1_readLines_91 : decode cX1_readLines 91 = .ok (.ifCond .ne 17, 3) := by decide +kernel
theorem dX1_readLines_94 : decode cX1_readLines 94 = .ok (.aload_n 0, 1) := by decide +kernel
theorem dX1_readLines_95 : decode cX1_readLines 95 = .ok (.bipush 6, 2) := by decide +kernel
theorem dX1_readLines_97 : decode cX1_readLines 97 = .ok (.aload_n 0, 1) := by decide +kernel
theorem dX1_readLines_98 : decode cX1_readLines 98 = .ok (.getfield 12, 3) := by decide +kernel
theorem dX1_readLines_101 : decode cX1_readLines 101 = .ok (.getfield 52, 3) := by decide +kernel
theorem dX1_readLines_104 : decode cX1_readLines 104 = .ok (.invokevirtual 68, 3) := by decide +kernel
theorem dX1_readLines_107 : decode cX1_readLines 107 = .ok (.pop, 1) := by decide +kernel
theorem dX1_readLines_108 : decode cX1_readLines 108 = .ok (.iload_n 1, 1) := by decide +kernel
theorem dX1_readLines_109 : decode cX1_readLines 109 = .ok (.ireturn, 1) := by decide +kernel
theorem dX1_refuse_0 : decode cX1_refuse 0 = .ok (.aload_n 0, 1) := by decide +kernel
theorem dX1_refuse_1 : decode cX1_refuse 1 = .ok (.iload_n 1, 1) := by decide +kernel
theorem dX1_refuse_2 : decode cX1_refuse 2 = .ok (.putfield 46, 3) := by decide +kernel
theorem dX1_refuse_5 : decode cX1_refuse 5 = .ok (.aload_n 0, 1) := by decide +kernel
theorem dX1_refuse_6 : decode cX1_refuse 6 = .ok (.iload_n 2, 1) := by decide +kernel
theorem dX1_refuse_7 : decode cX1_refuse 7 = .ok (.putfield 49, 3) := by decide +kernel
theorem dX1_refuse_10 : decode cX1_refuse 10 = .ok (.iconst 0, 1) := by decide +kernel
theorem dX1_refuse_11 : decode cX1_refuse 11 = .ok (.ireturn, 1) := by decide +kernel
theorem dX1_takeLine_0 : decode cX1_takeLine 0 = .ok (.aload_n 0, 1) := by decide +kernel
theorem dX1_takeLine_1 : decode cX1_takeLine 1 = .ok (.getfield 59, 3) := by decide +kernel
theorem dX1_takeLine_4 : decode cX1_takeLine 4 = .ok (.iconst 1, 1) := by decide +kernel
theorem dX1_takeLine_5 : decode cX1_takeLine 5 = .ok (.if_icmp .ne 10, 3) := by decide +kernel
theorem dX1_takeLine_8 : decode cX1_takeLine 8 = .ok (.aload_n 0, 1) := by decide +kernel
theorem dX1_takeLine_9 : decode cX1_takeLine 9 = .ok (.invokevirtual 72, 3) := by decide +kernel
theorem dX1_takeLine_12 : decode cX1_takeLine 12 = .ok (.goto 4, 3) := by decide +kernel
theorem dX1_takeLine_15 : decode cX1_takeLine 15 = .ok (.iconst (-1), 1) := by decide +kernel
theorem dX1_takeLine_16 : decode cX1_takeLine 16 = .ok (.istore_n 1, 1) := by decide +kernel
theorem dX1_takeLine_17 : decode cX1_takeLine 17 = .ok (.iload_n 1, 1) := by decide +kernel
theorem dX1_takeLine_18 : decode cX1_takeLine 18 = .ok (.iconst (-1), 1) := by decide +kernel
theorem dX1_takeLine_19 : decode cX1_takeLine 19 = .ok (.if_icmp .ne 13, 3) := by decide +kernel
theorem dX1_takeLine_22 : decode cX1_takeLine 22 = .ok (.aload_n 0, 1) := by decide +kernel
theorem dX1_takeLine_23 : decode cX1_takeLine 23 = .ok (.iconst 2, 1) := by decide +kernel
theorem dX1_takeLine_24 : decode cX1_takeLine 24 = .ok (.aload_n 0, 1) := by decide +kernel
theorem dX1_takeLine_25 : decode cX1_takeLine 25 = .ok (.getfield 76, 3) := by decide +kernel
theorem dX1_takeLine_28 : decode cX1_takeLine 28 = .ok (.invokevirtual 68, 3) := by decide +kernel
theorem dX1_takeLine_31 : decode cX1_takeLine 31 = .ok (.ireturn, 1) := by decide +kernel
theorem dX1_takeLine_32 : decode cX1_takeLine 32 = .ok (.aload_n 0, 1) := by decide +kernel
theorem dX1_takeLine_33 : decode cX1_takeLine 33 = .ok (.iload_n 1, 1) := by decide +kernel
theorem dX1_takeLine_34 : decode cX1_takeLine 34 = .ok (.invokevirtual 79, 3) := by decide +kernel
theorem dX1_takeLine_37 : decode cX1_takeLine 37 = .ok (.ifCond .eq 18, 3) := by decide +kernel
theorem dX1_takeLine_40 : decode cX1_takeLine 40 = .ok (.aload_n 0, 1) := by decide +kernel
theorem dX1_takeLine_41 : decode cX1_takeLine 41 = .ok (.iload_n 1, 1) := by decide +kernel
theorem dX1_takeLine_42 : decode cX1_takeLine 42 = .ok (.invokevirtual 83, 3) := by decide +kernel
theorem dX1_takeLine_45 : decode cX1_takeLine 45 = .ok (.ifCond .eq 10, 3) := by decide +kernel
theorem dX1_takeLine_48 : decode cX1_takeLine 48 = .ok (.aload_n 0, 1) := by decide +kernel
theorem dX1_takeLine_49 : decode cX1_takeLine 49 = .ok (.invokevirtual 55, 3) := by decide +kernel
theorem dX1_takeLine_52 : decode cX1_takeLine 52 = .ok (.ifCond .ne 5, 3) := by decide +kernel
theorem dX1_takeLine_55 : decode cX1_takeLine 55 = .ok (.iconst 0, 1) := by decide +kernel
theorem dX1_takeLine_56 : decode cX1_takeLine 56 = .ok (.ireturn, 1) := by decide +kernel
theorem dX1_takeLine_57 : decode cX1_takeLine 57 = .ok (.aload_n 0, 1) := by decide +kernel
theorem dX1_takeLine_58 : decode cX1_takeLine 58 = .ok (.getfield 59, 3) := by decide +kernel
theorem dX1_takeLine_61 : decode cX1_takeLine 61 = .ok (.iconst 3, 1) := by decide +kernel
theorem dX1_takeLine_62 : decode cX1_takeLine 62 = .ok (.if_icmp .eq 13, 3) := by decide +kernel
theorem dX1_takeLine_65 : decode cX1_takeLine 65 = .ok (.aload_n 0, 1) := by decide +kernel
theorem dX1_takeLine_66 : decode cX1_takeLine 66 = .ok (.iconst 2, 1) := by decide +kernel
theorem dX1_takeLine_67 : decode cX1_takeLine 67 = .ok (.aload_n 0, 1) := by decide +kernel
theorem dX1_takeLine_68 : decode cX1_takeLine 68 = .ok (.getfield 76, 3) := by decide +kernel
theorem dX1_takeLine_71 : decode cX1_takeLine 71 = .ok (.invokevirtual 68, 3) := by decide +kernel
theorem dX1_takeLine_74 : decode cX1_takeLine 74 = .ok (.ireturn, 1) := by decide +kernel
theorem dX1_takeLine_75 : decode cX1_takeLine 75 = .ok (.aload_n 0, 1) := by decide +kernel
theorem dX1_takeLine_76 : decode cX1_takeLine 76 = .ok (.iload_n 1, 1) := by decide +kernel
theorem dX1_takeLine_77 : decode cX1_takeLine 77 = .ok (.invokevirtual 86, 3) := by decide +kernel
theorem dX1_takeLine_80 : decode cX1_takeLine 80 = .ok (.iconst 1, 1) := by decide +kernel
theorem dX1_takeLine_81 : decode cX1_takeLine 81 = .ok (.ireturn, 1) := by decide +kernel
theorem dX1_mayBegin_0 : decode cX1_mayBegin 0 = .ok (.iload_n 1, 1) := by decide +kernel
theorem dX1_mayBegin_1 : decode cX1_mayBegin 1 = .ok (.bipush 6, 2) := by decide +kernel
theorem dX1_mayBegin_3 : decode cX1_mayBegin 3 = .ok (.if_icmp .ne 10, 3) := by decide +kernel
theorem dX1_mayBegin_6 : decode cX1_mayBegin 6 = .ok (.aload_n 0, 1) := by decide +kernel
theorem dX1_mayBegin_7 : decode cX1_mayBegin 7 = .ok (.getfield 36, 3) := by decide +kernel
theorem dX1_mayBegin_10 : decode cX1_mayBegin 10 = .ok (.ifCond .ne 16, 3) := by decide +kernel
theorem dX1_mayBegin_13 : decode cX1_mayBegin 13 = .ok (.iload_n 1, 1) := by decide +kernel
theorem dX1_mayBegin_14 : decode cX1_mayBegin 14 = .ok (.bipush 7, 2) := by decide +kernel
theorem dX1_mayBegin_16 : decode cX1_mayBegin 16 = .ok (.if_icmp .ne 20, 3) := by decide +kernel
theorem dX1_mayBegin_19 : decode cX1_mayBegin 19 = .ok (.aload_n 0, 1) := by decide +kernel
theorem dX1_mayBegin_20 : decode cX1_mayBegin 20 = .ok (.getfield 40, 3) := by decide +kernel
theorem dX1_mayBegin_23 : decode cX1_mayBegin 23 = .ok (.ifCond .eq 13, 3) := by decide +kernel
theorem dX1_mayBegin_26 : decode cX1_mayBegin 26 = .ok (.aload_n 0, 1) := by decide +kernel
theorem dX1_mayBegin_27 : decode cX1_mayBegin 27 = .ok (.iconst 4, 1) := by decide +kernel
theorem dX1_mayBegin_28 : decode cX1_mayBegin 28 = .ok (.aload_n 0, 1) := by decide +kernel
theorem dX1_mayBegin_29 : decode cX1_mayBegin 29 = .ok (.getfield 76, 3) := by decide +kernel
theorem dX1_mayBegin_32 : decode cX1_mayBegin 32 = .ok (.invokevirtual 68, 3) := by decide +kernel
theorem dX1_mayBegin_35 : decode cX1_mayBegin 35 = .ok (.ireturn, 1) := by decide +kernel
theorem dX1_mayBegin_36 : decode cX1_mayBegin 36 = .ok (.iload_n 1, 1) := by decide +kernel
theorem dX1_mayBegin_37 : decode cX1_mayBegin 37 = .ok (.iconst 4, 1) := by decide +kernel
theorem dX1_mayBegin_38 : decode cX1_mayBegin 38 = .ok (.if_icmp .ne 14, 3) := by decide +kernel
theorem dX1_mayBegin_41 : decode cX1_mayBegin 41 = .ok (.aload_n 0, 1) := by decide +kernel
theorem dX1_mayBegin_42 : decode cX1_mayBegin 42 = .ok (.getfield 21, 3) := by decide +kernel
theorem dX1_mayBegin_45 : decode cX1_mayBegin 45 = .ok (.getfield 90, 3) := by decide +kernel
theorem dX1_mayBegin_48 : decode cX1_mayBegin 48 = .ok (.iconst 4, 1) := by decide +kernel
theorem dX1_mayBegin_49 : decode cX1_mayBegin 49 = .ok (.if_icmp .ge 20, 3) := by decide +kernel
theorem dX1_mayBegin_52 : decode cX1_mayBegin 52 = .ok (.iload_n 1, 1) := by decide +kernel
theorem dX1_mayBegin_53 : decode cX1_mayBegin 53 = .ok (.iconst 4, 1) := by decide +kernel
theorem dX1_mayBegin_54 : decode cX1_mayBegin 54 = .ok (.if_icmp .ge 25, 3) := by decide +kernel
theorem dX1_mayBegin_57 : decode cX1_mayBegin 57 = .ok (.aload_n 0, 1) := by decide +kernel
theorem dX1_mayBegin_58 : decode cX1_mayBegin 58 = .ok (.getfield 21, 3) := by decide +kernel
theorem dX1_mayBegin_61 : decode cX1_mayBegin 61 = .ok (.getfield 93, 3) := by decide +kernel
theorem dX1_mayBegin_64 : decode cX1_mayBegin 64 = .ok (.bipush 8, 2) := by decide +kernel
theorem dX1_mayBegin_66 : decode cX1_mayBegin 66 = .ok (.if_icmp .lt 13, 3) := by decide +kernel
theorem dX1_mayBegin_69 : decode cX1_mayBegin 69 = .ok (.aload_n 0, 1) := by decide +kernel
theorem dX1_mayBegin_70 : decode cX1_mayBegin 70 = .ok (.iconst 5, 1) := by decide +kernel
theorem dX1_mayBegin_71 : decode cX1_mayBegin 71 = .ok (.aload_n 0, 1) := by decide +kernel
theorem dX1_mayBegin_72 : decode cX1_mayBegin 72 = .ok (.getfield 76, 3) := by decide +kernel
theorem dX1_mayBegin_75 : decode cX1_mayBegin 75 = .ok (.invokevirtual 68, 3) := by decide +kernel
theorem dX1_mayBegin_78 : decode cX1_mayBegin 78 = .ok (.ireturn, 1) := by decide +kernel
theorem dX1_mayBegin_79 : decode cX1_mayBegin 79 = .ok (.iconst 1, 1) := by decide +kernel
theorem dX1_mayBegin_80 : decode cX1_mayBegin 80 = .ok (.ireturn, 1) := by decide +kernel
theorem dX1_takeNumbers_0 : decode cX1_takeNumbers 0 = .ok (.iload_n 1, 1) := by decide +kernel
theorem dX1_takeNumbers_1 : decode cX1_takeNumbers 1 = .ok (.iconst 4, 1) := by decide +kernel
theorem dX1_takeNumbers_2 : decode cX1_takeNumbers 2 = .ok (.if_icmp .ge 9, 3) := by decide +kernel
theorem dX1_takeNumbers_5 : decode cX1_takeNumbers 5 = .ok (.getstatic 96, 3) := by decide +kernel
theorem dX1_takeNumbers_8 : decode cX1_takeNumbers 8 = .ok (.goto 6, 3) := by decide +kernel
theorem dX1_takeNumbers_11 : decode cX1_takeNumbers 11 = .ok (.getstatic 99, 3) := by decide +kernel
theorem dX1_takeNumbers_14 : decode cX1_takeNumbers 14 = .ok (.astore_n 2, 1) := by decide +kernel
theorem dX1_takeNumbers_15 : decode cX1_takeNumbers 15 = .ok (.iload_n 1, 1) := by decide +kernel
theorem dX1_takeNumbers_16 : decode cX1_takeNumbers 16 = .ok (.invokestatic 102, 3) := by decide +kernel
theorem dX1_takeNumbers_19 : decode cX1_takeNumbers 19 = .ok (.astore_n 3, 1) := by decide +kernel
theorem dX1_takeNumbers_20 : decode cX1_takeNumbers 20 = .ok (.iconst 0, 1) := by decide +kernel
theorem dX1_takeNumbers_21 : decode cX1_takeNumbers 21 = .ok (.istore 4, 2) := by decide +kernel
theorem dX1_takeNumbers_23 : decode cX1_takeNumbers 23 = .ok (.iload 4, 2) := by decide +kernel
theorem dX1_takeNumbers_25 : decode cX1_takeNumbers 25 = .ok (.aload_n 3, 1) := by decide +kernel
theorem dX1_takeNumbers_26 : decode cX1_takeNumbers 26 = .ok (.arraylength, 1) := by decide +kernel
theorem dX1_takeNumbers_27 : decode cX1_takeNumbers 27 = .ok (.if_icmp .ge 119, 3) := by decide +kernel
theorem dX1_takeNumbers_30 : decode cX1_takeNumbers 30 = .ok (.iload 4, 2) := by decide +kernel
theorem dX1_takeNumbers_32 : decode cX1_takeNumbers 32 = .ok (.aload_n 0, 1) := by decide +kernel
theorem dX1_takeNumbers_33 : decode cX1_takeNumbers 33 = .ok (.getfield 25, 3) := by decide +kernel
theorem dX1_takeNumbers_36 : decode cX1_takeNumbers 36 = .ok (.arraylength, 1) := by decide +kernel
theorem dX1_takeNumbers_37 : decode cX1_takeNumbers 37 = .ok (.if_icmp .ge 109, 3) := by decide +kernel
theorem dX1_takeNumbers_40 : decode cX1_takeNumbers 40 = .ok (.aload_n 0, 1) := by decide +kernel
theorem dX1_takeNumbers_41 : decode cX1_takeNumbers 41 = .ok (.invokevirtual 55, 3) := by decide +kernel
theorem dX1_takeNumbers_44 : decode cX1_takeNumbers 44 = .ok (.ifCond .ne 5, 3) := by decide +kernel
theorem dX1_takeNumbers_47 : decode cX1_takeNumbers 47 = .ok (.iconst 0, 1) := by decide +kernel
theorem dX1_takeNumbers_48 : decode cX1_takeNumbers 48 = .ok (.ireturn, 1) := by decide +kernel
theorem dX1_takeNumbers_49 : decode cX1_takeNumbers 49 = .ok (.aload_n 0, 1) := by decide +kernel
theorem dX1_takeNumbers_50 : decode cX1_takeNumbers 50 = .ok (.getfield 59, 3) := by decide +kernel
theorem dX1_takeNumbers_53 : decode cX1_takeNumbers 53 = .ok (.iconst 2, 1) := by decide +kernel
theorem dX1_takeNumbers_54 : decode cX1_takeNumbers 54 = .ok (.if_icmp .eq 13, 3) := by decide +kernel
theorem dX1_takeNumbers_57 : decode cX1_takeNumbers 57 = .ok (.aload_n 0, 1) := by decide +kernel
theorem dX1_takeNumbers_58 : decode cX1_takeNumbers 58 = .ok (.iconst 2, 1) := by decide +kernel
theorem dX1_takeNumbers_59 : decode cX1_takeNumbers 59 = .ok (.aload_n 0, 1) := by decide +kernel
theorem dX1_takeNumbers_60 : decode cX1_takeNumbers 60 = .ok (.getfield 76, 3) := by decide +kernel
theorem dX1_takeNumbers_63 : decode cX1_takeNumbers 63 = .ok (.invokevirtual 68, 3) := by decide +kernel
theorem dX1_takeNumbers_66 : decode cX1_takeNumbers 66 = .ok (.ireturn, 1) := by decide +kernel
theorem dX1_takeNumbers_67 : decode cX1_takeNumbers 67 = .ok (.aload_n 0, 1) := by decide +kernel
theorem dX1_takeNumbers_68 : decode cX1_takeNumbers 68 = .ok (.getfield 106, 3) := by decide +kernel
theorem dX1_takeNumbers_71 : decode cX1_takeNumbers 71 = .ok (.aload_n 2, 1) := by decide +kernel
theorem dX1_takeNumbers_72 : decode cX1_takeNumbers 72 = .ok (.iload 4, 2) := by decide +kernel
theorem dX1_takeNumbers_74 : decode cX1_takeNumbers 74 = .ok (.iaload, 1) := by decide +kernel
theorem dX1_takeNumbers_75 : decode cX1_takeNumbers 75 = .ok (.aload_n 3, 1) := by decide +kernel
theorem dX1_takeNumbers_76 : decode cX1_takeNumbers 76 = .ok (.iload 4, 2) := by decide +kernel
theorem dX1_takeNumbers_78 : decode cX1_takeNumbers 78 = .ok (.iaload, 1) := by decide +kernel
theorem dX1_takeNumbers_79 : decode cX1_takeNumbers 79 = .ok (.invokestatic 109, 3) := by decide +kernel
theorem dX1_takeNumbers_82 : decode cX1_takeNumbers 82 = .ok (.ifCond .ne 13, 3) := by decide +kernel
theorem dX1_takeNumbers_85 : decode cX1_takeNumbers 85 = .ok (.aload_n 0, 1) := by decide +kernel
theorem dX1_takeNumbers_86 : decode cX1_takeNumbers 86 = .ok (.iconst 3, 1) := by decide +kernel
theorem dX1_takeNumbers_87 : decode cX1_takeNumbers 87 = .ok (.aload_n 0, 1) := by decide +kernel
theorem dX1_takeNumbers_88 : decode cX1_takeNumbers 88 = .ok (.getfield 76, 3) := by decide +kernel
theorem dX1_takeNumbers_91 : decode cX1_takeNumbers 91 = .ok (.invokevirtual 68, 3) := by decide +kernel
theorem dX1_takeNumbers_94 : decode cX1_takeNumbers 94 = .ok (.ireturn, 1) := by decide +kernel
theorem dX1_takeNumbers_95 : decode cX1_takeNumbers 95 = .ok (.iload_n 1, 1) := by decide +kernel
theorem dX1_takeNumbers_96 : decode cX1_takeNumbers 96 = .ok (.iconst 5, 1) := by decide +kernel
theorem dX1_takeNumbers_97 : decode cX1_takeNumbers 97 = .ok (.if_icmp .ne 32, 3) := by decide +kernel
theorem dX1_takeNumbers_100 : decode cX1_takeNumbers 100 = .ok (.iload 4, 2) := by decide +kernel
theorem dX1_takeNumbers_102 : decode cX1_takeNumbers 102 = .ok (.ifCond .ne 27, 3) := by decide +kernel
theorem dX1_takeNumbers_105 : decode cX1_takeNumbers 105 = .ok (.aload_n 0, 1) := by decide +kernel
theorem dX1_takeNumbers_106 : decode cX1_takeNumbers 106 = .ok (.getfield 43, 3) := by decide +kernel
theorem dX1_takeNumbers_109 : decode cX1_takeNumbers 109 = .ok (.aload_n 0, 1) := by decide +kernel
theorem dX1_takeNumbers_110 : decode cX1_takeNumbers 110 = .ok (.getfield 106, 3) := by decide +kernel
theorem dX1_takeNumbers_113 : decode cX1_takeNumbers 113 = .ok (.ishr, 1) := by decide +kernel
theorem dX1_takeNumbers_114 : decode cX1_takeNumbers 114 = .ok (.iconst 1, 1) := by decide +kernel
theorem dX1_takeNumbers_115 : decode cX1_takeNumbers 115 = .ok (.iand, 1) := by decide +kernel
theorem dX1_takeNumbers_116 : decode cX1_takeNumbers 116 = .ok (.ifCond .eq 13, 3) := by decide +kernel
theorem dX1_takeNumbers_119 : decode cX1_takeNumbers 119 = .ok (.aload_n 0, 1) := by decide +kernel
theorem dX1_takeNumbers_120 : decode cX1_takeNumbers 120 = .ok (.iconst 4, 1) := by decide +kernel
theorem dX1_takeNumbers_121 : decode cX1_takeNumbers 121 = .ok (.aload_n 0, 1) := by decide +kernel
theorem dX1_takeNumbers_122 : decode cX1_takeNumbers 122 = .ok (.getfield 76, 3) := by decide +kernel
theorem dX1_takeNumbers_125 : decode cX1_takeNumbers 125 = .ok (.invokevirtual 68, 3) := by decide +kernel
theorem dX1_takeNumbers_128 : decode cX1_takeNumbers 128 = .ok (.ireturn, 1) := by decide +kernel
theorem dX1_takeNumbers_129 : decode cX1_takeNumbers 129 = .ok (.aload_n 0, 1) := by decide +kernel
theorem dX1_takeNumbers_130 : decode cX1_takeNumbers 130 = .ok (.getfield 25, 3) := by decide +kernel
theorem dX1_takeNumbers_133 : decode cX1_takeNumbers 133 = .ok (.iload 4, 2) := by decide +kernel
theorem dX1_takeNumbers_135 : decode cX1_takeNumbers 135 = .ok (.aload_n 0, 1) := by decide +kernel
theorem dX1_takeNumbers_136 : decode cX1_takeNumbers 136 = .ok (.getfield 106, 3) := by decide +kernel
theorem dX1_takeNumbers_139 : decode cX1_takeNumbers 139 = .ok (.iastore, 1) := by decide +kernel
theorem dX1_takeNumbers_140 : decode cX1_takeNumbers 140 = .ok (.iinc 4 1, 3) := by decide +kernel
theorem dX1_takeNumbers_143 : decode cX1_takeNumbers 143 = .ok (.goto (-120), 3) := by decide +kernel
theorem dX1_takeNumbers_146 : decode cX1_takeNumbers 146 = .ok (.iconst 1, 1) := by decide +kernel
theorem dX1_takeNumbers_147 : decode cX1_takeNumbers 147 = .ok (.ireturn, 1) := by decide +kernel
theorem dX1_mostOf_0 : decode cX1_mostOf 0 = .ok (.iload_n 0, 1) := by decide +kernel
theorem dX1_mostOf_1 : decode cX1_mostOf 1 = .ok (.tableswitch 47 4 7 #[31, 35, 39, 43], 31) := by decide +kernel
theorem dX1_mostOf_32 : decode cX1_mostOf 32 = .ok (.getstatic 113, 3) := by decide +kernel
theorem dX1_mostOf_35 : decode cX1_mostOf 35 = .ok (.areturn, 1) := by decide +kernel
theorem dX1_mostOf_36 : decode cX1_mostOf 36 = .ok (.getstatic 116, 3) := by decide +kernel
theorem dX1_mostOf_39 : decode cX1_mostOf 39 = .ok (.areturn, 1) := by decide +kernel
theorem dX1_mostOf_40 : decode cX1_mostOf 40 = .ok (.getstatic 119, 3) := by decide +kernel
theorem dX1_mostOf_43 : decode cX1_mostOf 43 = .ok (.areturn, 1) := by decide +kernel
theorem dX1_mostOf_44 : decode cX1_mostOf 44 = .ok (.getstatic 122, 3) := by decide +kernel
theorem dX1_mostOf_47 : decode cX1_mostOf 47 = .ok (.areturn, 1) := by decide +kernel
theorem dX1_mostOf_48 : decode cX1_mostOf 48 = .ok (.getstatic 125, 3) := by decide +kernel
theorem dX1_mostOf_51 : decode cX1_mostOf 51 = .ok (.areturn, 1) := by decide +kernel
theorem dX1_tellLine_0 : decode cX1_tellLine 0 = .ok (.iload_n 1, 1) := by decide +kernel
theorem dX1_tellLine_1 : decode cX1_tellLine 1 = .ok (.tableswitch 141 4 7 #[31, 59, 99, 120], 31) := by decide +kernel
theorem dX1_tellLine_32 : decode cX1_tellLine 32 = .ok (.aload_n 0, 1) := by decide +kernel
theorem dX1_tellLine_33 : decode cX1_tellLine 33 = .ok (.getfield 21, 3) := by decide +kernel
theorem dX1_tellLine_36 : decode cX1_tellLine 36 = .ok (.aload_n 0, 1) := by decide +kernel
theorem dX1_tellLine_37 : decode cX1_tellLine 37 = .ok (.getfield 25, 3) := by decide +kernel
theorem dX1_tellLine_40 : decode cX1_tellLine 40 = .ok (.iconst 0, 1) := by decide +kernel
theorem dX1_tellLine_41 : decode cX1_tellLine 41 = .ok (.iaload, 1) := by decide +kernel
theorem dX1_tellLine_42 : decode cX1_tellLine 42 = .ok (.aload_n 0, 1) := by decide +kernel
theorem dX1_tellLine_43 : decode cX1_tellLine 43 = .ok (.getfield 25, 3) := by decide +kernel
theorem dX1_tellLine_46 : decode cX1_tellLine 46 = .ok (.iconst 1, 1) := by decide +kernel
theorem dX1_tellLine_47 : decode cX1_tellLine 47 = .ok (.iaload, 1) := by decide +kernel
theorem dX1_tellLine_48 : decode cX1_tellLine 48 = .ok (.aload_n 0, 1) := by decide +kernel
theorem dX1_tellLine_49 : decode cX1_tellLine 49 = .ok (.getfield 25, 3) := by decide +kernel
theorem dX1_tellLine_52 : decode cX1_tellLine 52 = .ok (.iconst 2, 1) := by decide +kernel
theorem dX1_tellLine_53 : decode cX1_tellLine 53 = .ok (.iaload, 1) := by decide +kernel
theorem dX1_tellLine_54 : decode cX1_tellLine 54 = .ok (.invokevirtual 128, 3) := by decide +kernel
theorem dX1_tellLine_57 : decode cX1_tellLine 57 = .ok (.goto 111, 3) := by decide +kernel
theorem dX1_tellLine_60 : decode cX1_tellLine 60 = .ok (.aload_n 0, 1) := by decide +kernel
theorem dX1_tellLine_61 : decode cX1_tellLine 61 = .ok (.getfield 21, 3) := by decide +kernel
theorem dX1_tellLine_64 : decode cX1_tellLine 64 = .ok (.getfield 132, 3) := by decide +kernel
theorem dX1_tellLine_67 : decode cX1_tellLine 67 = .ok (.aload_n 0, 1) := by decide +kernel
theorem dX1_tellLine_68 : decode cX1_tellLine 68 = .ok (.getfield 25, 3) := by decide +kernel
theorem dX1_tellLine_71 : decode cX1_tellLine 71 = .ok (.iconst 0, 1) := by decide +kernel
theorem dX1_tellLine_72 : decode cX1_tellLine 72 = .ok (.iaload, 1) := by decide +kernel
theorem dX1_tellLine_73 : decode cX1_tellLine 73 = .ok (.aload_n 0, 1) := by decide +kernel
theorem dX1_tellLine_74 : decode cX1_tellLine 74 = .ok (.getfield 25, 3) := by decide +kernel
theorem dX1_tellLine_77 : decode cX1_tellLine 77 = .ok (.iconst 1, 1) := by decide +kernel
theorem dX1_tellLine_78 : decode cX1_tellLine 78 = .ok (.iaload, 1) := by decide +kernel
theorem dX1_tellLine_79 : decode cX1_tellLine 79 = .ok (.iastore, 1) := by decide +kernel
theorem dX1_tellLine_80 : decode cX1_tellLine 80 = .ok (.aload_n 0, 1) := by decide +kernel
theorem dX1_tellLine_81 : decode cX1_tellLine 81 = .ok (.dup, 1) := by decide +kernel
theorem dX1_tellLine_82 : decode cX1_tellLine 82 = .ok (.getfield 43, 3) := by decide +kernel
theorem dX1_tellLine_85 : decode cX1_tellLine 85 = .ok (.iconst 1, 1) := by decide +kernel
theorem dX1_tellLine_86 : decode cX1_tellLine 86 = .ok (.aload_n 0, 1) := by decide +kernel
theorem dX1_tellLine_87 : decode cX1_tellLine 87 = .ok (.getfield 25, 3) := by decide +kernel
theorem dX1_tellLine_90 : decode cX1_tellLine 90 = .ok (.iconst 0, 1) := by decide +kernel
theorem dX1_tellLine_91 : decode cX1_tellLine 91 = .ok (.iaload, 1) := by decide +kernel
theorem dX1_tellLine_92 : decode cX1_tellLine 92 = .ok (.ishl, 1) := by decide +kernel
theorem dX1_tellLine_93 : decode cX1_tellLine 93 = .ok (.ior, 1) := by decide +kernel
theorem dX1_tellLine_94 : decode cX1_tellLine 94 = .ok (.putfield 43, 3) := by decide +kernel
theorem dX1_tellLine_97 : decode cX1_tellLine 97 = .ok (.goto 71, 3) := by decide +kernel
theorem dX1_tellLine_100 : decode cX1_tellLine 100 = .ok (.aload_n 0, 1) := by decide +kernel
theorem dX1_tellLine_101 : decode cX1_tellLine 101 = .ok (.getfield 21, 3) := by decide +kernel
theorem dX1_tellLine_104 : decode cX1_tellLine 104 = .ok (.aload_n 0, 1) := by decide +kernel
theorem dX1_tellLine_105 : decode cX1_tellLine 105 = .ok (.getfield 25, 3) := by decide +kernel
theorem dX1_tellLine_108 : decode cX1_tellLine 108 = .ok (.iconst 0, 1) := by decide +kernel
theorem dX1_tellLine_109 : decode cX1_tellLine 109 = .ok (.iaload, 1) := by decide +kernel
theorem dX1_tellLine_110 : decode cX1_tellLine 110 = .ok (.putfield 135, 3) := by decide +kernel
theorem dX1_tellLine_113 : decode cX1_tellLine 113 = .ok (.aload_n 0, 1) := by decide +kernel
theorem dX1_tellLine_114 : decode cX1_tellLine 114 = .ok (.iconst 1, 1) := by decide +kernel
theorem dX1_tellLine_115 : decode cX1_tellLine 115 = .ok (.putfield 36, 3) := by decide +kernel
theorem dX1_tellLine_118 : decode cX1_tellLine 118 = .ok (.goto 50, 3) := by decide +kernel
theorem dX1_tellLine_121 : decode cX1_tellLine 121 = .ok (.aload_n 0, 1) := by decide +kernel
theorem dX1_tellLine_122 : decode cX1_tellLine 122 = .ok (.getfield 21, 3) := by decide +kernel
theorem dX1_tellLine_125 : decode cX1_tellLine 125 = .ok (.aload_n 0, 1) := by decide +kernel
theorem dX1_tellLine_126 : decode cX1_tellLine 126 = .ok (.getfield 25, 3) := by decide +kernel
theorem dX1_tellLine_129 : decode cX1_tellLine 129 = .ok (.iconst 0, 1) := by decide +kernel
theorem dX1_tellLine_130 : decode cX1_tellLine 130 = .ok (.iaload, 1) := by decide +kernel
theorem dX1_tellLine_131 : decode cX1_tellLine 131 = .ok (.putfield 138, 3) := by decide +kernel
theorem dX1_tellLine_134 : decode cX1_tellLine 134 = .ok (.aload_n 0, 1) := by decide +kernel
theorem dX1_tellLine_135 : decode cX1_tellLine 135 = .ok (.iconst 1, 1) := by decide +kernel
theorem dX1_tellLine_136 : decode cX1_tellLine 136 = .ok (.putfield 40, 3) := by decide +kernel
theorem dX1_tellLine_139 : decode cX1_tellLine 139 = .ok (.goto 29, 3) := by decide +kernel
theorem dX1_tellLine_142 : decode cX1_tellLine 142 = .ok (.aload_n 0, 1) := by decide +kernel
theorem dX1_tellLine_143 : decode cX1_tellLine 143 = .ok (.getfield 21, 3) := by decide +kernel
theorem dX1_tellLine_146 : decode cX1_tellLine 146 = .ok (.iload_n 1, 1) := by decide +kernel
theorem dX1_tellLine_147 : decode cX1_tellLine 147 = .ok (.aload_n 0, 1) := by decide +kernel
theorem dX1_tellLine_148 : decode cX1_tellLine 148 = .ok (.getfield 25, 3) := by decide +kernel
theorem dX1_tellLine_151 : decode cX1_tellLine 151 = .ok (.iconst 0, 1) := by decide +kernel
theorem dX1_tellLine_152 : decode cX1_tellLine 152 = .ok (.iaload, 1) := by decide +kernel
theorem dX1_tellLine_153 : decode cX1_tellLine 153 = .ok (.aload_n 0, 1) := by decide +kernel
theorem dX1_tellLine_154 : decode cX1_tellLine 154 = .ok (.getfield 25, 3) := by decide +kernel
theorem dX1_tellLine_157 : decode cX1_tellLine 157 = .ok (.iconst 1, 1) := by decide +kernel
theorem dX1_tellLine_158 : decode cX1_tellLine 158 = .ok (.iaload, 1) := by decide +kernel
theorem dX1_tellLine_159 : decode cX1_tellLine 159 = .ok (.aload_n 0, 1) := by decide +kernel
theorem dX1_tellLine_160 : decode cX1_tellLine 160 = .ok (.getfield 25, 3) := by decide +kernel
theorem dX1_tellLine_163 : decode cX1_tellLine 163 = .ok (.iconst 2, 1) := by decide +kernel
theorem dX1_tellLine_164 : decode cX1_tellLine 164 = .ok (.iaload, 1) := by decide +kernel
theorem dX1_tellLine_165 : decode cX1_tellLine 165 = .ok (.invokevirtual 141, 3) := by decide +kernel
theorem dX1_tellLine_168 : decode cX1_tellLine 168 = .ok (.return_, 1) := by decide +kernel
theorem dX1_takeToken_0 : decode cX1_takeToken 0 = .ok (.aload_n 0, 1) := by decide +kernel
theorem dX1_takeToken_1 : decode cX1_takeToken 1 = .ok (.getfield 32, 3) := by decide +kernel
theorem dX1_takeToken_4 : decode cX1_takeToken 4 = .ok (.aload_n 0, 1) := by decide +kernel
theorem dX1_takeToken_5 : decode cX1_takeToken 5 = .ok (.getfield 12, 3) := by decide +kernel
theorem dX1_takeToken_8 : decode cX1_takeToken 8 = .ok (.getfield 52, 3) := by decide +kernel
theorem dX1_takeToken_11 : decode cX1_takeToken 11 = .ok (.if_icmp .ge 33, 3) := by decide +kernel
theorem dX1_takeToken_14 : decode cX1_takeToken 14 = .ok (.aload_n 0, 1) := by decide +kernel
theorem dX1_takeToken_15 : decode cX1_takeToken 15 = .ok (.getfield 12, 3) := by decide +kernel
theorem dX1_takeToken_18 : decode cX1_takeToken 18 = .ok (.getfield 145, 3) := by decide +kernel
theorem dX1_takeToken_21 : decode cX1_takeToken 21 = .ok (.aload_n 0, 1) := by decide +kernel
theorem dX1_takeToken_22 : decode cX1_takeToken 22 = .ok (.getfield 32, 3) := by decide +kernel
theorem dX1_takeToken_25 : decode cX1_takeToken 25 = .ok (.baload, 1) := by decide +kernel
theorem dX1_takeToken_26 : decode cX1_takeToken 26 = .ok (.bipush 32, 2) := by decide +kernel
theorem dX1_takeToken_28 : decode cX1_takeToken 28 = .ok (.if_icmp .ne 16, 3) := by decide +kernel
theorem dX1_takeToken_31 : decode cX1_takeToken 31 = .ok (.aload_n 0, 1) := by decide +kernel
theorem dX1_takeToken_32 : decode cX1_takeToken 32 = .ok (.dup, 1) := by decide +kernel
theorem dX1_takeToken_33 : decode cX1_takeToken 33 = .ok (.getfield 32, 3) := by decide +kernel
theorem dX1_takeToken_36 : decode cX1_takeToken 36 = .ok (.iconst 1, 1) := by decide +kernel
theorem dX1_takeToken_37 : decode cX1_takeToken 37 = .ok (.iadd, 1) := by decide +kernel
theorem dX1_takeToken_38 : decode cX1_takeToken 38 = .ok (.putfield 32, 3) := by decide +kernel
theorem dX1_takeToken_41 : decode cX1_takeToken 41 = .ok (.goto (-41), 3) := by decide +kernel
theorem dX1_takeToken_44 : decode cX1_takeToken 44 = .ok (.aload_n 0, 1) := by decide +kernel
theorem dX1_takeToken_45 : decode cX1_takeToken 45 = .ok (.aload_n 0, 1) := by decide +kernel
theorem dX1_takeToken_46 : decode cX1_takeToken 46 = .ok (.getfield 32, 3) := by decide +kernel
theorem dX1_takeToken_49 : decode cX1_takeToken 49 = .ok (.putfield 76, 3) := by decide +kernel
theorem dX1_takeToken_52 : decode cX1_takeToken 52 = .ok (.aload_n 0, 1) := by decide +kernel
theorem dX1_takeToken_53 : decode cX1_takeToken 53 = .ok (.getfield 32, 3) := by decide +kernel
theorem dX1_takeToken_56 : decode cX1_takeToken 56 = .ok (.aload_n 0, 1) := by decide +kernel
theorem dX1_takeToken_57 : decode cX1_takeToken 57 = .ok (.getfield 12, 3) := by decide +kernel
theorem dX1_takeToken_60 : decode cX1_takeToken 60 = .ok (.getfield 52, 3) := by decide +kernel
theorem dX1_takeToken_63 : decode cX1_takeToken 63 = .ok (.if_icmp .lt 10, 3) := by decide +kernel
theorem dX1_takeToken_66 : decode cX1_takeToken 66 = .ok (.aload_n 0, 1) := by decide +kernel
theorem dX1_takeToken_67 : decode cX1_takeToken 67 = .ok (.iconst 0, 1) := by decide +kernel
theorem dX1_takeToken_68 : decode cX1_takeToken 68 = .ok (.putfield 59, 3) := by decide +kernel
theorem dX1_takeToken_71 : decode cX1_takeToken 71 = .ok (.iconst 1, 1) := by decide +kernel
theorem dX1_takeToken_72 : decode cX1_takeToken 72 = .ok (.ireturn, 1) := by decide +kernel
theorem dX1_takeToken_73 : decode cX1_takeToken 73 = .ok (.aload_n 0, 1) := by decide +kernel
theorem dX1_takeToken_74 : decode cX1_takeToken 74 = .ok (.getfield 12, 3) := by decide +kernel
theorem dX1_takeToken_77 : decode cX1_takeToken 77 = .ok (.getfield 145, 3) := by decide +kernel
theorem dX1_takeToken_80 : decode cX1_takeToken 80 = .ok (.aload_n 0, 1) := by decide +kernel
theorem dX1_takeToken_81 : decode cX1_takeToken 81 = .ok (.getfield 32, 3) := by decide +kernel
theorem dX1_takeToken_84 : decode cX1_takeToken 84 = .ok (.baload, 1) := by decide +kernel
theorem dX1_takeToken_85 : decode cX1_takeToken 85 = .ok (.istore_n 1, 1) := by decide +kernel
theorem dX1_takeToken_86 : decode cX1_takeToken 86 = .ok (.iload_n 1, 1) := by decide +kernel
theorem dX1_takeToken_87 : decode cX1_takeToken 87 = .ok (.invokestatic 149, 3) := by decide +kernel
theorem dX1_takeToken_90 : decode cX1_takeToken 90 = .ok (.ifCond .eq 14, 3) := by decide +kernel
theorem dX1_takeToken_93 : decode cX1_takeToken 93 = .ok (.aload_n 0, 1) := by decide +kernel
theorem dX1_takeToken_94 : decode cX1_takeToken 94 = .ok (.iconst 1, 1) := by decide +kernel
theorem dX1_takeToken_95 : decode cX1_takeToken 95 = .ok (.putfield 59, 3) := by decide +kernel
theorem dX1_takeToken_98 : decode cX1_takeToken 98 = .ok (.aload_n 0, 1) := by decide +kernel
theorem dX1_takeToken_99 : decode cX1_takeToken 99 = .ok (.invokevirtual 152, 3) := by decide +kernel
theorem dX1_takeToken_102 : decode cX1_takeToken 102 = .ok (.iconst 1, 1) := by decide +kernel
theorem dX1_takeToken_103 : decode cX1_takeToken 103 = .ok (.ireturn, 1) := by decide +kernel
theorem dX1_takeToken_104 : decode cX1_takeToken 104 = .ok (.iload_n 1, 1) := by decide +kernel
theorem dX1_takeToken_105 : decode cX1_takeToken 105 = .ok (.invokestatic 155, 3) := by decide +kernel
theorem dX1_takeToken_108 : decode cX1_takeToken 108 = .ok (.ifCond .eq 13, 3) := by decide +kernel
theorem dX1_takeToken_111 : decode cX1_takeToken 111 = .ok (.aload_n 0, 1) := by decide +kernel
theorem dX1_takeToken_112 : decode cX1_takeToken 112 = .ok (.iconst 2, 1) := by decide +kernel
theorem dX1_takeToken_113 : decode cX1_takeToken 113 = .ok (.putfield 59, 3) := by decide +kernel
theorem dX1_takeToken_116 : decode cX1_takeToken 116 = .ok (.aload_n 0, 1) := by decide +kernel
theorem dX1_takeToken_117 : decode cX1_takeToken 117 = .ok (.invokevirtual 158, 3) := by decide +kernel
theorem dX1_takeToken_120 : decode cX1_takeToken 120 = .ok (.ireturn, 1) := by decide +kernel
theorem dX1_takeToken_121 : decode cX1_takeToken 121 = .ok (.aload_n 0, 1) := by decide +kernel
theorem dX1_takeToken_122 : decode cX1_takeToken 122 = .ok (.iconst 3, 1) := by decide +kernel
theorem dX1_takeToken_123 : decode cX1_takeToken 123 = .ok (.putfield 59, 3) := by decide +kernel
theorem dX1_takeToken_126 : decode cX1_takeToken 126 = .ok (.aload_n 0, 1) := by decide +kernel
theorem dX1_takeToken_127 : decode cX1_takeToken 127 = .ok (.dup, 1) := by decide +kernel
theorem dX1_takeToken_128 : decode cX1_takeToken 128 = .ok (.getfield 32, 3) := by decide +kernel
theorem dX1_takeToken_131 : decode cX1_takeToken 131 = .ok (.iconst 1, 1) := by decide +kernel
theorem dX1_takeToken_132 : decode cX1_takeToken 132 = .ok (.iadd, 1) := by decide +kernel
theorem dX1_takeToken_133 : decode cX1_takeToken 133 = .ok (.putfield 32, 3) := by decide +kernel
theorem dX1_takeToken_136 : decode cX1_takeToken 136 = .ok (.iload_n 1, 1) := by decide +kernel
theorem dX1_takeToken_137 : decode cX1_takeToken 137 = .ok (.bipush 59, 2) := by decide +kernel
theorem dX1_takeToken_139 : decode cX1_takeToken 139 = .ok (.if_icmp .eq 15, 3) := by decide +kernel
theorem dX1_takeToken_142 : decode cX1_takeToken 142 = .ok (.aload_n 0, 1) := by decide +kernel
theorem dX1_takeToken_143 : decode cX1_takeToken 143 = .ok (.iconst 1, 1) := by decide +kernel
theorem dX1_takeToken_144 : decode cX1_takeToken 144 = .ok (.aload_n 0, 1) := by decide +kernel
theorem dX1_takeToken_145 : decode cX1_takeToken 145 = .ok (.getfield 76, 3) := by decide +kernel
theorem dX1_takeToken_148 : decode cX1_takeToken 148 = .ok (.invokevirtual 68, 3) := by decide +kernel
theorem dX1_takeToken_151 : decode cX1_takeToken 151 = .ok (.ifCond .eq 7, 3) := by decide +kernel
theorem dX1_takeToken_154 : decode cX1_takeToken 154 = .ok (.iconst 1, 1) := by decide +kernel
theorem dX1_takeToken_155 : decode cX1_takeToken 155 = .ok (.goto 4, 3) := by decide +kernel
theorem dX1_takeToken_158 : decode cX1_takeToken 158 = .ok (.iconst 0, 1) := by decide +kernel
theorem dX1_takeToken_159 : decode cX1_takeToken 159 = .ok (.ireturn, 1) := by decide +kernel
theorem dX1_passLetters_0 : decode cX1_passLetters 0 = .ok (.aload_n 0, 1) := by decide +kernel
theorem dX1_passLetters_1 : decode cX1_passLetters 1 = .ok (.getfield 32, 3) := by decide +kernel
theorem dX1_passLetters_4 : decode cX1_passLetters 4 = .ok (.aload_n 0, 1) := by decide +kernel
theorem dX1_passLetters_5 : decode cX1_passLetters 5 = .ok (.getfield 12, 3) := by decide +kernel
theorem dX1_passLetters_8 : decode cX1_passLetters 8 = .ok (.getfield 52, 3) := by decide +kernel
theorem dX1_passLetters_11 : decode cX1_passLetters 11 = .ok (.if_icmp .ge 34, 3) := by decide +kernel
theorem dX1_passLetters_14 : decode cX1_passLetters 14 = .ok (.aload_n 0, 1) := by decide +kernel
theorem dX1_passLetters_15 : decode cX1_passLetters 15 = .ok (.getfield 12, 3) := by decide +kernel
theorem dX1_passLetters_18 : decode cX1_passLetters 18 = .ok (.getfield 145, 3) := by decide +kernel
theorem dX1_passLetters_21 : decode cX1_passLetters 21 = .ok (.aload_n 0, 1) := by decide +kernel
theorem dX1_passLetters_22 : decode cX1_passLetters 22 = .ok (.getfield 32, 3) := by decide +kernel
theorem dX1_passLetters_25 : decode cX1_passLetters 25 = .ok (.baload, 1) := by decide +kernel
theorem dX1_passLetters_26 : decode cX1_passLetters 26 = .ok (.invokestatic 149, 3) := by decide +kernel
theorem dX1_passLetters_29 : decode cX1_passLetters 29 = .ok (.ifCond .eq 16, 3) := by decide +kernel
theorem dX1_passLetters_32 : decode cX1_passLetters 32 = .ok (.aload_n 0, 1) := by decide +kernel
theorem dX1_passLetters_33 : decode cX1_passLetters 33 = .ok (.dup, 1) := by decide +kernel
theorem dX1_passLetters_34 : decode cX1_passLetters 34 = .ok (.getfield 32, 3) := by decide +kernel
theorem dX1_passLetters_37 : decode cX1_passLetters 37 = .ok (.iconst 1, 1) := by decide +kernel
theorem dX1_passLetters_38 : decode cX1_passLetters 38 = .ok (.iadd, 1) := by decide +kernel
theorem dX1_passLetters_39 : decode cX1_passLetters 39 = .ok (.putfield 32, 3) := by decide +kernel
theorem dX1_passLetters_42 : decode cX1_passLetters 42 = .ok (.goto (-42), 3) := by decide +kernel
theorem dX1_passLetters_45 : decode cX1_passLetters 45 = .ok (.return_, 1) := by decide +kernel
theorem dX1_takeFigures_0 : decode cX1_takeFigures 0 = .ok (.aload_n 0, 1) := by decide +kernel
theorem dX1_takeFigures_1 : decode cX1_takeFigures 1 = .ok (.iconst 0, 1) := by decide +kernel
theorem dX1_takeFigures_2 : decode cX1_takeFigures 2 = .ok (.putfield 106, 3) := by decide +kernel
theorem dX1_takeFigures_5 : decode cX1_takeFigures 5 = .ok (.aload_n 0, 1) := by decide +kernel
theorem dX1_takeFigures_6 : decode cX1_takeFigures 6 = .ok (.getfield 32, 3) := by decide +kernel
theorem dX1_takeFigures_9 : decode cX1_takeFigures 9 = .ok (.aload_n 0, 1) := by decide +kernel
theorem dX1_takeFigures_10 : decode cX1_takeFigures 10 = .ok (.getfield 12, 3) := by decide +kernel
theorem dX1_takeFigures_13 : decode cX1_takeFigures 13 = .ok (.getfield 52, 3) := by decide +kernel
theorem dX1_takeFigures_16 : decode cX1_takeFigures 16 = .ok (.if_icmp .ge 84, 3) := by decide +kernel
theorem dX1_takeFigures_19 : decode cX1_takeFigures 19 = .ok (.aload_n 0, 1) := by decide +kernel
theorem dX1_takeFigures_20 : decode cX1_takeFigures 20 = .ok (.getfield 12, 3) := by decide +kernel
theorem dX1_takeFigures_23 : decode cX1_takeFigures 23 = .ok (.getfield 145, 3) := by decide +kernel
theorem dX1_takeFigures_26 : decode cX1_takeFigures 26 = .ok (.aload_n 0, 1) := by decide +kernel
theorem dX1_takeFigures_27 : decode cX1_takeFigures 27 = .ok (.getfield 32, 3) := by decide +kernel
theorem dX1_takeFigures_30 : decode cX1_takeFigures 30 = .ok (.baload, 1) := by decide +kernel
theorem dX1_takeFigures_31 : decode cX1_takeFigures 31 = .ok (.invokestatic 155, 3) := by decide +kernel
theorem dX1_takeFigures_34 : decode cX1_takeFigures 34 = .ok (.ifCond .eq 66, 3) := by decide +kernel
theorem dX1_takeFigures_37 : decode cX1_takeFigures 37 = .ok (.aload_n 0, 1) := by decide +kernel
theorem dX1_takeFigures_38 : decode cX1_takeFigures 38 = .ok (.getfield 32, 3) := by decide +kernel
theorem dX1_takeFigures_41 : decode cX1_takeFigures 41 = .ok (.aload_n 0, 1) := by decide +kernel
theorem dX1_takeFigures_42 : decode cX1_takeFigures 42 = .ok (.getfield 76, 3) := by decide +kernel
theorem dX1_takeFigures_45 : decode cX1_takeFigures 45 = .ok (.isub, 1) := by decide +kernel
theorem dX1_takeFigures_46 : decode cX1_takeFigures 46 = .ok (.iconst 2, 1) := by decide +kernel
theorem dX1_takeFigures_47 : decode cX1_takeFigures 47 = .ok (.if_icmp .lt 13, 3) := by decide +kernel
theorem dX1_takeFigures_50 : decode cX1_takeFigures 50 = .ok (.aload_n 0, 1) := by decide +kernel
theorem dX1_takeFigures_51 : decode cX1_takeFigures 51 = .ok (.iconst 1, 1) := by decide +kernel
theorem dX1_takeFigures_52 : decode cX1_takeFigures 52 = .ok (.aload_n 0, 1) := by decide +kernel
theorem dX1_takeFigures_53 : decode cX1_takeFigures 53 = .ok (.getfield 76, 3) := by decide +kernel
theorem dX1_takeFigures_56 : decode cX1_takeFigures 56 = .ok (.invokevirtual 68, 3) := by decide +kernel
theorem dX1_takeFigures_59 : decode cX1_takeFigures 59 = .ok (.ireturn, 1) := by decide +kernel
theorem dX1_takeFigures_60 : decode cX1_takeFigures 60 = .ok (.aload_n 0, 1) := by decide +kernel
theorem dX1_takeFigures_61 : decode cX1_takeFigures 61 = .ok (.aload_n 0, 1) := by decide +kernel
theorem dX1_takeFigures_62 : decode cX1_takeFigures 62 = .ok (.getfield 106, 3) := by decide +kernel
theorem dX1_takeFigures_65 : decode cX1_takeFigures 65 = .ok (.bipush 10, 2) := by decide +kernel
theorem dX1_takeFigures_67 : decode cX1_takeFigures 67 = .ok (.imul, 1) := by decide +kernel
theorem dX1_takeFigures_68 : decode cX1_takeFigures 68 = .ok (.aload_n 0, 1) := by decide +kernel
theorem dX1_takeFigures_69 : decode cX1_takeFigures 69 = .ok (.getfield 12, 3) := by decide +kernel
theorem dX1_takeFigures_72 : decode cX1_takeFigures 72 = .ok (.getfield 145, 3) := by decide +kernel
theorem dX1_takeFigures_75 : decode cX1_takeFigures 75 = .ok (.aload_n 0, 1) := by decide +kernel
theorem dX1_takeFigures_76 : decode cX1_takeFigures 76 = .ok (.getfield 32, 3) := by decide +kernel
theorem dX1_takeFigures_79 : decode cX1_takeFigures 79 = .ok (.baload, 1) := by decide +kernel
theorem dX1_takeFigures_80 : decode cX1_takeFigures 80 = .ok (.iadd, 1) := by decide +kernel
theorem dX1_takeFigures_81 : decode cX1_takeFigures 81 = .ok (.bipush 48, 2) := by decide +kernel
theorem dX1_takeFigures_83 : decode cX1_takeFigures 83 = .ok (.isub, 1) := by decide +kernel
theorem dX1_takeFigures_84 : decode cX1_takeFigures 84 = .ok (.putfield 106, 3) := by decide +kernel
theorem dX1_takeFigures_87 : decode cX1_takeFigures 87 = .ok (.aload_n 0, 1) := by decide +kernel
theorem dX1_takeFigures_88 : decode cX1_takeFigures 88 = .ok (.dup, 1) := by decide +kernel
theorem dX1_takeFigures_89 : decode cX1_takeFigures 89 = .ok (.getfield 32, 3) := by decide +kernel
theorem dX1_takeFigures_92 : decode cX1_takeFigures 92 = .ok (.iconst 1, 1) := by decide +kernel
theorem dX1_takeFigures_93 : decode cX1_takeFigures 93 = .ok (.iadd, 1) := by decide +kernel
theorem dX1_takeFigures_94 : decode cX1_takeFigures 94 = .ok (.putfield 32, 3) := by decide +kernel
theorem dX1_takeFigures_97 : decode cX1_takeFigures 97 = .ok (.goto (-92), 3) := by decide +kernel
theorem dX1_takeFigures_100 : decode cX1_takeFigures 100 = .ok (.iconst 1, 1) := by decide +kernel
theorem dX1_takeFigures_101 : decode cX1_takeFigures 101 = .ok (.ireturn, 1) := by decide +kernel
theorem dX1_isLetter_0 : decode cX1_isLetter 0 = .ok (.iload_n 0, 1) := by decide +kernel
theorem dX1_isLetter_1 : decode cX1_isLetter 1 = .ok (.bipush 97, 2) := by decide +kernel
theorem dX1_isLetter_3 : decode cX1_isLetter 3 = .ok (.bipush 122, 2) := by decide +kernel
theorem dX1_isLetter_5 : decode cX1_isLetter 5 = .ok (.invokestatic 109, 3) := by decide +kernel
theorem dX1_isLetter_8 : decode cX1_isLetter 8 = .ok (.ireturn, 1) := by decide +kernel
theorem dX1_isFigure_0 : decode cX1_isFigure 0 = .ok (.iload_n 0, 1) := by decide +kernel
theorem dX1_isFigure_1 : decode cX1_isFigure 1 = .ok (.bipush 48, 2) := by decide +kernel
theorem dX1_isFigure_3 : decode cX1_isFigure 3 = .ok (.bipush 57, 2) := by decide +kernel
theorem dX1_isFigure_5 : decode cX1_isFigure 5 = .ok (.invokestatic 109, 3) := by decide +kernel
theorem dX1_isFigure_8 : decode cX1_isFigure 8 = .ok (.ireturn, 1) := by decide +kernel
theorem dX1_wordHere_0 : decode cX1_wordHere 0 = .ok (.iconst 0, 1) := by decide +kernel
theorem dX1_wordHere_1 : decode cX1_wordHere 1 = .ok (.istore_n 1, 1) := by decide +kernel
theorem dX1_wordHere_2 : decode cX1_wordHere 2 = .ok (.iload_n 1, 1) := by decide +kernel
theorem dX1_wordHere_3 : decode cX1_wordHere 3 = .ok (.bipush 8, 2) := by decide +kernel
theorem dX1_wordHere_5 : decode cX1_wordHere 5 = .ok (.if_icmp .ge 22, 3) := by decide +kernel
theorem dX1_wordHere_8 : decode cX1_wordHere 8 = .ok (.aload_n 0, 1) := by decide +kernel
theorem dX1_wordHere_9 : decode cX1_wordHere 9 = .ok (.iload_n 1, 1) := by decide +kernel
theorem dX1_wordHere_10 : decode cX1_wordHere 10 = .ok (.invokestatic 161, 3) := by decide +kernel
theorem dX1_wordHere_13 : decode cX1_wordHere 13 = .ok (.invokevirtual 165, 3) := by decide +kernel
theorem dX1_wordHere_16 : decode cX1_wordHere 16 = .ok (.ifCond .eq 5, 3) := by decide +kernel
theorem dX1_wordHere_19 : decode cX1_wordHere 19 = .ok (.iload_n 1, 1) := by decide +kernel
theorem dX1_wordHere_20 : decode cX1_wordHere 20 = .ok (.ireturn, 1) := by decide +kernel
theorem dX1_wordHere_21 : decode cX1_wordHere 21 = .ok (.iinc 1 1, 3) := by decide +kernel
theorem dX1_wordHere_24 : decode cX1_wordHere 24 = .ok (.goto (-22), 3) := by decide +kernel
theorem dX1_wordHere_27 : decode cX1_wordHere 27 = .ok (.iconst (-1), 1) := by decide +kernel
theorem dX1_wordHere_28 : decode cX1_wordHere 28 = .ok (.ireturn, 1) := by decide +kernel
theorem dX1_spellingOf_0 : decode cX1_spellingOf 0 = .ok (.iload_n 0, 1) := by decide +kernel
theorem dX1_spellingOf_1 : decode cX1_spellingOf 1 = .ok (.tableswitch 64 0 6 #[43, 46, 49, 52, 55, 58, 61], 43) := by decide +kernel
theorem dX1_spellingOf_44 : decode cX1_spellingOf 44 = .ok (.ldc 169, 2) := by decide +kernel
theorem dX1_spellingOf_46 : decode cX1_spellingOf 46 = .ok (.areturn, 1) := by decide +kernel
theorem dX1_spellingOf_47 : decode cX1_spellingOf 47 = .ok (.ldc 171, 2) := by decide +kernel
theorem dX1_spellingOf_49 : decode cX1_spellingOf 49 = .ok (.areturn, 1) := by decide +kernel
theorem dX1_spellingOf_50 : decode cX1_spellingOf 50 = .ok (.ldc 173, 2) := by decide +kernel
theorem dX1_spellingOf_52 : decode cX1_spellingOf 52 = .ok (.areturn, 1) := by decide +kernel
theorem dX1_spellingOf_53 : decode cX1_spellingOf 53 = .ok (.ldc 175, 2) := by decide +kernel
theorem dX1_spellingOf_55 : decode cX1_spellingOf 55 = .ok (.areturn, 1) := by decide +kernel
theorem dX1_spellingOf_56 : decode cX1_spellingOf 56 = .ok (.ldc 177, 2) := by decide +kernel
theorem dX1_spellingOf_58 : decode cX1_spellingOf 58 = .ok (.areturn, 1) := by decide +kernel
theorem dX1_spellingOf_59 : decode cX1_spellingOf 59 = .ok (.ldc 179, 2) := by decide +kernel
theorem dX1_spellingOf_61 : decode cX1_spellingOf 61 = .ok (.areturn, 1) := by decide +kernel
theorem dX1_spellingOf_62 : decode cX1_spellingOf 62 = .ok (.ldc 181, 2) := by decide +kernel
theorem dX1_spellingOf_64 : decode cX1_spellingOf 64 = .ok (.areturn, 1) := by decide +kernel
theorem dX1_spellingOf_65 : decode cX1_spellingOf 65 = .ok (.ldc 182, 2) := by decide +kernel
theorem dX1_spellingOf_67 : decode cX1_spellingOf 67 = .ok (.areturn, 1) := by decide +kernel
theorem dX1_isSpelled_0 : decode cX1_isSpelled 0 = .ok (.aload_n 1, 1) := by decide +kernel
theorem dX1_isSpelled_1 : decode cX1_isSpelled 1 = .ok (.invokevirtual 183, 3) := by decide +kernel
theorem dX1_isSpelled_4 : decode cX1_isSpelled 4 = .ok (.aload_n 0, 1) := by decide +kernel
theorem dX1_isSpelled_5 : decode cX1_isSpelled 5 = .ok (.getfield 32, 3) := by decide +kernel
theorem dX1_isSpelled_8 : decode cX1_isSpelled 8 = .ok (.aload_n 0, 1) := by decide +kernel
theorem dX1_isSpelled_9 : decode cX1_isSpelled 9 = .ok (.getfield 76, 3) := by decide +kernel
theorem dX1_isSpelled_12 : decode cX1_isSpelled 12 = .ok (.isub, 1) := by decide +kernel
theorem dX1_isSpelled_13 : decode cX1_isSpelled 13 = .ok (.if_icmp .eq 5, 3) := by decide +kernel
theorem dX1_isSpelled_16 : decode cX1_isSpelled 16 = .ok (.iconst 0, 1) := by decide +kernel
theorem dX1_isSpelled_17 : decode cX1_isSpelled 17 = .ok (.ireturn, 1) := by decide +kernel
theorem dX1_isSpelled_18 : decode cX1_isSpelled 18 = .ok (.iconst 0, 1) := by decide +kernel
theorem dX1_isSpelled_19 : decode cX1_isSpelled 19 = .ok (.istore_n 2, 1) := by decide +kernel
theorem dX1_isSpelled_20 : decode cX1_isSpelled 20 = .ok (.iload_n 2, 1) := by decide +kernel
theorem dX1_isSpelled_21 : decode cX1_isSpelled 21 = .ok (.aload_n 1, 1) := by decide +kernel
theorem dX1_isSpelled_22 : decode cX1_isSpelled 22 = .ok (.invokevirtual 183, 3) := by decide +kernel
theorem dX1_isSpelled_25 : decode cX1_isSpelled 25 = .ok (.if_icmp .ge 33, 3) := by decide +kernel
theorem dX1_isSpelled_28 : decode cX1_isSpelled 28 = .ok (.aload_n 1, 1) := by decide +kernel
theorem dX1_isSpelled_29 : decode cX1_isSpelled 29 = .ok (.iload_n 2, 1) := by decide +kernel
theorem dX1_isSpelled_30 : decode cX1_isSpelled 30 = .ok (.invokevirtual 187, 3) := by decide +kernel
theorem dX1_isSpelled_33 : decode cX1_isSpelled 33 = .ok (.aload_n 0, 1) := by decide +kernel
theorem dX1_isSpelled_34 : decode cX1_isSpelled 34 = .ok (.getfield 12, 3) := by decide +kernel
theorem dX1_isSpelled_37 : decode cX1_isSpelled 37 = .ok (.getfield 145, 3) := by decide +kernel
theorem dX1_isSpelled_40 : decode cX1_isSpelled 40 = .ok (.aload_n 0, 1) := by decide +kernel
theorem dX1_isSpelled_41 : decode cX1_isSpelled 41 = .ok (.getfield 76, 3) := by decide +kernel
theorem dX1_isSpelled_44 : decode cX1_isSpelled 44 = .ok (.iload_n 2, 1) := by decide +kernel
theorem dX1_isSpelled_45 : decode cX1_isSpelled 45 = .ok (.iadd, 1) := by decide +kernel
theorem dX1_isSpelled_46 : decode cX1_isSpelled 46 = .ok (.baload, 1) := by decide +kernel
theorem dX1_isSpelled_47 : decode cX1_isSpelled 47 = .ok (.if_icmp .eq 5, 3) := by decide +kernel
theorem dX1_isSpelled_50 : decode cX1_isSpelled 50 = .ok (.iconst 0, 1) := by decide +kernel
theorem dX1_isSpelled_51 : decode cX1_isSpelled 51 = .ok (.ireturn, 1) := by decide +kernel
theorem dX1_isSpelled_52 : decode cX1_isSpelled 52 = .ok (.iinc 2 1, 3) := by decide +kernel
theorem dX1_isSpelled_55 : decode cX1_isSpelled 55 = .ok (.goto (-35), 3) := by decide +kernel
theorem dX1_isSpelled_58 : decode cX1_isSpelled 58 = .ok (.iconst 1, 1) := by decide +kernel
theorem dX1_isSpelled_59 : decode cX1_isSpelled 59 = .ok (.ireturn, 1) := by decide +kernel
theorem dX2_init_0 : decode cX2_init 0 = .ok (.aload_n 0, 1) := by decide +kernel
theorem dX2_init_1 : decode cX2_init 1 = .ok (.invokespecial 3, 3) := by decide +kernel
theorem dX2_init_4 : decode cX2_init 4 = .ok (.aload_n 0, 1) := by decide +kernel
theorem dX2_init_5 : decode cX2_init 5 = .ok (.bipush 40, 2) := by decide +kernel
theorem dX2_init_7 : decode cX2_init 7 = .ok (.newarray .int, 2) := by decide +kernel
theorem dX2_init_9 : decode cX2_init 9 = .ok (.putfield 9, 3) := by decide +kernel
theorem dX2_init_12 : decode cX2_init 12 = .ok (.return_, 1) := by decide +kernel
theorem dX2_renew_0 : decode cX2_renew 0 = .ok (.aload_n 0, 1) := by decide +kernel
theorem dX2_renew_1 : decode cX2_renew 1 = .ok (.iconst 1, 1) := by decide +kernel
theorem dX2_renew_2 : decode cX2_renew 2 = .ok (.putfield 15, 3) := by decide +kernel
theorem dX2_renew_5 : decode cX2_renew 5 = .ok (.aload_n 0, 1) := by decide +kernel
theorem dX2_renew_6 : decode cX2_renew 6 = .ok (.iload_n 1, 1) := by decide +kernel
theorem dX2_renew_7 : decode cX2_renew 7 = .ok (.putfield 19, 3) := by decide +kernel
theorem dX2_renew_10 : decode cX2_renew 10 = .ok (.aload_n 0, 1) := by decide +kernel
theorem dX2_renew_11 : decode cX2_renew 11 = .ok (.iload_n 2, 1) := by decide +kernel
theorem dX2_renew_12 : decode cX2_renew 12 = .ok (.putfield 23, 3) := by decide +kernel
theorem dX2_renew_15 : decode cX2_renew 15 = .ok (.aload_n 0, 1) := by decide +kernel
theorem dX2_renew_16 : decode cX2_renew 16 = .ok (.getfield 9, 3) := by decide +kernel
theorem dX2_renew_19 : decode cX2_renew 19 = .ok (.iconst 0, 1) := by decide +kernel
theorem dX2_renew_20 : decode cX2_renew 20 = .ok (.invokestatic 26, 3) := by decide +kernel
theorem dX2_renew_23 : decode cX2_renew 23 = .ok (.return_, 1) := by decide +kernel
theorem dX2_faultAt_0 : decode cX2_faultAt 0 = .ok (.aload_n 0, 1) := by decide +kernel
theorem dX2_faultAt_1 : decode cX2_faultAt 1 = .ok (.getfield 15, 3) := by decide +kernel
theorem dX2_faultAt_4 : decode cX2_faultAt 4 = .ok (.ifCond .ne 5, 3) := by decide +kernel
theorem dX2_faultAt_7 : decode cX2_faultAt 7 = .ok (.iconst 1, 1) := by decide +kernel
theorem dX2_faultAt_8 : decode cX2_faultAt 8 = .ok (.ireturn, 1) := by decide +kernel
theorem dX2_faultAt_9 : decode cX2_faultAt 9 = .ok (.iload_n 1, 1) := by decide +kernel
theorem dX2_faultAt_10 : decode cX2_faultAt 10 = .ok (.aload_n 0, 1) := by decide +kernel
theorem dX2_faultAt_11 : decode cX2_faultAt 11 = .ok (.getfield 19, 3) := by decide +kernel
theorem dX2_faultAt_14 : decode cX2_faultAt 14 = .ok (.if_icmp .eq 5, 3) := by decide +kernel
theorem dX2_faultAt_17 : decode cX2_faultAt 17 = .ok (.iconst 3, 1) := by decide +kernel
theorem dX2_faultAt_18 : decode cX2_faultAt 18 = .ok (.ireturn, 1) := by decide +kernel
theorem dX2_faultAt_19 : decode cX2_faultAt 19 = .ok (.iload_n 2, 1) := by decide +kernel
theorem dX2_faultAt_20 : decode cX2_faultAt 20 = .ok (.iconst 0, 1) := by decide +kernel
theorem dX2_faultAt_21 : decode cX2_faultAt 21 = .ok (.aload_n 0, 1) := by decide +kernel
theorem dX2_faultAt_22 : decode cX2_faultAt 22 = .ok (.getfield 23, 3) := by decide +kernel
theorem dX2_faultAt_25 : decode cX2_faultAt 25 = .ok (.iconst 1, 1) := by decide +kernel
theorem dX2_faultAt_26 : decode cX2_faultAt 26 = .ok (.isub, 1) := by decide +kernel
theorem dX2_faultAt_27 : decode cX2_faultAt 27 = .ok (.invokestatic 32, 3) := by decide +kernel
theorem dX2_faultAt_30 : decode cX2_faultAt 30 = .ok (.ifCond .eq 7, 3) := by decide +kernel
theorem dX2_faultAt_33 : decode cX2_faultAt 33 = .ok (.iconst 0, 1) := by decide +kernel
theorem dX2_faultAt_34 : decode cX2_faultAt 34 = .ok (.goto 4, 3) := by decide +kernel
theorem dX2_faultAt_37 : decode cX2_faultAt 37 = .ok (.iconst 2, 1) := by decide +kernel
theorem dX2_faultAt_38 : decode cX2_faultAt 38 = .ok (.ireturn, 1) := by decide +kernel
theorem dX2_lowestBits_0 : decode cX2_lowestBits 0 = .ok (.aload_n 0, 1) := by decide +kernel
theorem dX2_lowestBits_1 : decode cX2_lowestBits 1 = .ok (.getfield 19, 3) := by decide +kernel
theorem dX2_lowestBits_4 : decode cX2_lowestBits 4 = .ok (.lookupswitch 34 #[(0, 28), (1, 31)], 28) := by decide +kernel
theorem dX2_lowestBits_32 : decode cX2_lowestBits 32 = .ok (.iload_n 1, 1) := by decide +kernel
theorem dX2_lowestBits_33 : decode cX2_lowestBits 33 = .ok (.i2b, 1) := by decide +kernel
theorem dX2_lowestBits_34 : decode cX2_lowestBits 34 = .ok (.ireturn, 1) := by decide +kernel
theorem dX2_lowestBits_35 : decode cX2_lowestBits 35 = .ok (.iload_n 1, 1) := by decide +kernel
theorem dX2_lowestBits_36 : decode cX2_lowestBits 36 = .ok (.i2s, 1) := by decide +kernel
theorem dX2_lowestBits_37 : decode cX2_lowestBits 37 = .ok (.ireturn, 1) := by decide +kernel
theorem dX2_lowestBits_38 : decode cX2_lowestBits 38 = .ok (.iload_n 1, 1) := by decide +kernel
theorem dX2_lowestBits_39 : decode cX2_lowestBits 39 = .ok (.ireturn, 1) := by decide +kernel
theorem dX3_init_0 : decode cX3_init 0 = .ok (.aload_n 0, 1) := by decide +kernel
theorem dX3_init_1 : decode cX3_init 1 = .ok (.invokespecial 3, 3) := by decide +kernel
theorem dX3_init_4 : decode cX3_init 4 = .ok (.aload_n 0, 1) := by decide +kernel
theorem dX3_init_5 : decode cX3_init 5 = .ok (.bipush 6, 2) := by decide +kernel
theorem dX3_init_7 : decode cX3_init 7 = .ok (.newarray .int, 2) := by decide +kernel
theorem dX3_init_9 : decode cX3_init 9 = .ok (.putfield 9, 3) := by decide +kernel
theorem dX3_init_12 : decode cX3_init 12 = .ok (.aload_n 0, 1) := by decide +kernel
theorem dX3_init_13 : decode cX3_init 13 = .ok (.bipush 6, 2) := by decide +kernel
theorem dX3_init_15 : decode cX3_init 15 = .ok (.newarray .int, 2) := by decide +kernel
theorem dX3_init_17 : decode cX3_init 17 = .ok (.putfield 15, 3) := by decide +kernel
theorem dX3_init_20 : decode cX3_init 20 = .ok (.return_, 1) := by decide +kernel
theorem dX3_addSighting_0 : decode cX3_addSighting 0 = .ok (.aload_n 0, 1) := by decide +kernel
theorem dX3_addSighting_1 : decode cX3_addSighting 1 = .ok (.getfield 18, 3) := by decide +kernel
theorem dX3_addSighting_4 : decode cX3_addSighting 4 = .ok (.bipush 6, 2) := by decide +kernel
theorem dX3_addSighting_6 : decode cX3_addSighting 6 = .ok (.if_icmp .lt 5, 3) := by decide +kernel
theorem dX3_addSighting_9 : decode cX3_addSighting 9 = .ok (.iconst 0, 1) := by decide +kernel
theorem dX3_addSighting_10 : decode cX3_addSighting 10 = .ok (.ireturn, 1) := by decide +kernel
theorem dX3_addSighting_11 : decode cX3_addSighting 11 = .ok (.aload_n 0, 1) := by decide +kernel
theorem dX3_addSighting_12 : decode cX3_addSighting 12 = .ok (.getfield 9, 3) := by decide +kernel
theorem dX3_addSighting_15 : decode cX3_addSighting 15 = .ok (.aload_n 0, 1) := by decide +kernel
theorem dX3_addSighting_16 : decode cX3_addSighting 16 = .ok (.getfield 18, 3) := by decide +kernel
theorem dX3_addSighting_19 : decode cX3_addSighting 19 = .ok (.iload_n 1, 1) := by decide +kernel
theorem dX3_addSighting_20 : decode cX3_addSighting 20 = .ok (.iastore, 1) := by decide +kernel
theorem dX3_addSighting_21 : decode cX3_addSighting 21 = .ok (.aload_n 0, 1) := by decide +kernel
theorem dX3_addSighting_22 : decode cX3_addSighting 22 = .ok (.getfield 15, 3) := by decide +kernel
theorem dX3_addSighting_25 : decode cX3_addSighting 25 = .ok (.aload_n 0, 1) := by decide +kernel
theorem dX3_addSighting_26 : decode cX3_addSighting 26 = .ok (.getfield 18, 3) := by decide +kernel
theorem dX3_addSighting_29 : decode cX3_addSighting 29 = .ok (.iload_n 2, 1) := by decide +kernel
theorem dX3_addSighting_30 : decode cX3_addSighting 30 = .ok (.iastore, 1) := by decide +kernel
theorem dX3_addSighting_31 : decode cX3_addSighting 31 = .ok (.aload_n 0, 1) := by decide +kernel
theorem dX3_addSighting_32 : decode cX3_addSighting 32 = .ok (.dup, 1) := by decide +kernel
theorem dX3_addSighting_33 : decode cX3_addSighting 33 = .ok (.getfield 18, 3) := by decide +kernel
theorem dX3_addSighting_36 : decode cX3_addSighting 36 = .ok (.iconst 1, 1) := by decide +kernel
theorem dX3_addSighting_37 : decode cX3_addSighting 37 = .ok (.iadd, 1) := by decide +kernel
theorem dX3_addSighting_38 : decode cX3_addSighting 38 = .ok (.putfield 18, 3) := by decide +kernel
theorem dX3_addSighting_41 : decode cX3_addSighting 41 = .ok (.iconst 1, 1) := by decide +kernel
theorem dX3_addSighting_42 : decode cX3_addSighting 42 = .ok (.ireturn, 1) := by decide +kernel
theorem dX3_latestDay_0 : decode cX3_latestDay 0 = .ok (.iconst 0, 1) := by decide +kernel
theorem dX3_latestDay_1 : decode cX3_latestDay 1 = .ok (.istore_n 1, 1) := by decide +kernel
theorem dX3_latestDay_2 : decode cX3_latestDay 2 = .ok (.iconst 0, 1) := by decide +kernel
theorem dX3_latestDay_3 : decode cX3_latestDay 3 = .ok (.istore_n 2, 1) := by decide +kernel
theorem dX3_latestDay_4 : decode cX3_latestDay 4 = .ok (.iload_n 2, 1) := by decide +kernel
theorem dX3_latestDay_5 : decode cX3_latestDay 5 = .ok (.aload_n 0, 1) := by decide +kernel
theorem dX3_latestDay_6 : decode cX3_latestDay 6 = .ok (.getfield 18, 3) := by decide +kernel
theorem dX3_latestDay_9 : decode cX3_latestDay 9 = .ok (.if_icmp .ge 20, 3) := by decide +kernel
theorem dX3_latestDay_12 : decode cX3_latestDay 12 = .ok (.iload_n 1, 1) := by decide +kernel
theorem dX3_latestDay_13 : decode cX3_latestDay 13 = .ok (.aload_n 0, 1) := by decide +kernel
theorem dX3_latestDay_14 : decode cX3_latestDay 14 = .ok (.getfield 9, 3) := by decide +kernel
theorem dX3_latestDay_17 : decode cX3_latestDay 17 = .ok (.iload_n 2, 1) := by decide +kernel
theorem dX3_latestDay_18 : decode cX3_latestDay 18 = .ok (.iaload, 1) := by decide +kernel
theorem dX3_latestDay_19 : decode cX3_latestDay 19 = .ok (.invokestatic 22, 3) := by decide +kernel
theorem dX3_latestDay_22 : decode cX3_latestDay 22 = .ok (.istore_n 1, 1) := by decide +kernel
theorem dX3_latestDay_23 : decode cX3_latestDay 23 = .ok (.iinc 2 1, 3) := by decide +kernel
theorem dX3_latestDay_26 : decode cX3_latestDay 26 = .ok (.goto (-22), 3) := by decide +kernel
theorem dX3_latestDay_29 : decode cX3_latestDay 29 = .ok (.iload_n 1, 1) := by decide +kernel
theorem dX3_latestDay_30 : decode cX3_latestDay 30 = .ok (.ireturn, 1) := by decide +kernel
theorem dX3_rowsAsSeen_0 : decode cX3_rowsAsSeen 0 = .ok (.iconst 0, 1) := by decide +kernel
theorem dX3_rowsAsSeen_1 : decode cX3_rowsAsSeen 1 = .ok (.istore_n 2, 1) := by decide +kernel
theorem dX3_rowsAsSeen_2 : decode cX3_rowsAsSeen 2 = .ok (.iconst 0, 1) := by decide +kernel
theorem dX3_rowsAsSeen_3 : decode cX3_rowsAsSeen 3 = .ok (.istore_n 3, 1) := by decide +kernel
theorem dX3_rowsAsSeen_4 : decode cX3_rowsAsSeen 4 = .ok (.iload_n 3, 1) := by decide +kernel
theorem dX3_rowsAsSeen_5 : decode cX3_rowsAsSeen 5 = .ok (.aload_n 1, 1) := by decide +kernel
theorem dX3_rowsAsSeen_6 : decode cX3_rowsAsSeen 6 = .ok (.getfield 28, 3) := by decide +kernel
theorem dX3_rowsAsSeen_9 : decode cX3_rowsAsSeen 9 = .ok (.if_icmp .ge 28, 3) := by decide +kernel
theorem dX3_rowsAsSeen_12 : decode cX3_rowsAsSeen 12 = .ok (.iload_n 2, 1) := by decide +kernel
theorem dX3_rowsAsSeen_13 : decode cX3_rowsAsSeen 13 = .ok (.aload_n 0, 1) := by decide +kernel
theorem dX3_rowsAsSeen_14 : decode cX3_rowsAsSeen 14 = .ok (.aload_n 1, 1) := by decide +kernel
theorem dX3_rowsAsSeen_15 : decode cX3_rowsAsSeen 15 = .ok (.iload_n 3, 1) := by decide +kernel
theorem dX3_rowsAsSeen_16 : decode cX3_rowsAsSeen 16 = .ok (.invokevirtual 33, 3) := by decide +kernel
theorem dX3_rowsAsSeen_19 : decode cX3_rowsAsSeen 19 = .ok (.ifCond .eq 9, 3) := by decide +kernel
theorem dX3_rowsAsSeen_22 : decode cX3_rowsAsSeen 22 = .ok (.iconst 1, 1) := by decide +kernel
theorem dX3_rowsAsSeen_23 : decode cX3_rowsAsSeen 23 = .ok (.iload_n 3, 1) := by decide +kernel
theorem dX3_rowsAsSeen_24 : decode cX3_rowsAsSeen 24 = .ok (.ishl, 1) := by decide +kernel
theorem dX3_rowsAsSeen_25 : decode cX3_rowsAsSeen 25 = .ok (.goto 4, 3) := by decide +kernel
theorem dX3_rowsAsSeen_28 : decode cX3_rowsAsSeen 28 = .ok (.iconst 0, 1) := by decide +kernel
theorem dX3_rowsAsSeen_29 : decode cX3_rowsAsSeen 29 = .ok (.ior, 1) := by decide +kernel
theorem dX3_rowsAsSeen_30 : decode cX3_rowsAsSeen 30 = .ok (.istore_n 2, 1) := by decide +kernel
theorem dX3_rowsAsSeen_31 : decode cX3_rowsAsSeen 31 = .ok (.iinc 3 1, 3) := by decide +kernel
theorem dX3_rowsAsSeen_34 : decode cX3_rowsAsSeen 34 = .ok (.goto (-30), 3) := by decide +kernel
theorem dX3_rowsAsSeen_37 : decode cX3_rowsAsSeen 37 = .ok (.iload_n 2, 1) := by decide +kernel
theorem dX3_rowsAsSeen_38 : decode cX3_rowsAsSeen 38 = .ok (.ireturn, 1) := by decide +kernel
theorem dX3_agreeWith_0 : decode cX3_agreeWith 0 = .ok (.iconst 0, 1) := by decide +kernel
theorem dX3_agreeWith_1 : decode cX3_agreeWith 1 = .ok (.istore_n 3, 1) := by decide +kernel
theorem dX3_agreeWith_2 : decode cX3_agreeWith 2 = .ok (.iload_n 3, 1) := by decide +kernel
theorem dX3_agreeWith_3 : decode cX3_agreeWith 3 = .ok (.aload_n 0, 1) := by decide +kernel
theorem dX3_agreeWith_4 : decode cX3_agreeWith 4 = .ok (.getfield 18, 3) := by decide +kernel
theorem dX3_agreeWith_7 : decode cX3_agreeWith 7 = .ok (.if_icmp .ge 31, 3) := by decide +kernel
theorem dX3_agreeWith_10 : decode cX3_agreeWith 10 = .ok (.aload_n 1, 1) := by decide +kernel
theorem dX3_agreeWith_11 : decode cX3_agreeWith 11 = .ok (.iload_n 2, 1) := by decide +kernel
theorem dX3_agreeWith_12 : decode cX3_agreeWith 12 = .ok (.aload_n 0, 1) := by decide +kernel
theorem dX3_agreeWith_13 : decode cX3_agreeWith 13 = .ok (.getfield 9, 3) := by decide +kernel
theorem dX3_agreeWith_16 : decode cX3_agreeWith 16 = .ok (.iload_n 3, 1) := by decide +kernel
theorem dX3_agreeWith_17 : decode cX3_agreeWith 17 = .ok (.iaload, 1) := by decide +kernel
theorem dX3_agreeWith_18 : decode cX3_agreeWith 18 = .ok (.invokevirtual 37, 3) := by decide +kernel
theorem dX3_agreeWith_21 : decode cX3_agreeWith 21 = .ok (.aload_n 0, 1) := by decide +kernel
theorem dX3_agreeWith_22 : decode cX3_agreeWith 22 = .ok (.getfield 15, 3) := by decide +kernel
theorem dX3_agreeWith_25 : decode cX3_agreeWith 25 = .ok (.iload_n 3, 1) := by decide +kernel
theorem dX3_agreeWith_26 : decode cX3_agreeWith 26 = .ok (.iaload, 1) := by decide +kernel
theorem dX3_agreeWith_27 : decode cX3_agreeWith 27 = .ok (.if_icmp .eq 5, 3) := by decide +kernel
theorem dX3_agreeWith_30 : decode cX3_agreeWith 30 = .ok (.iconst 0, 1) := by decide +kernel
theorem dX3_agreeWith_31 : decode cX3_agreeWith 31 = .ok (.ireturn, 1) := by decide +kernel
theorem dX3_agreeWith_32 : decode cX3_agreeWith 32 = .ok (.iinc 3 1, 3) := by decide +kernel
theorem dX3_agreeWith_35 : decode cX3_agreeWith 35 = .ok (.goto (-33), 3) := by decide +kernel
theorem dX3_agreeWith_38 : decode cX3_agreeWith 38 = .ok (.iconst 1, 1) := by decide +kernel
theorem dX3_agreeWith_39 : decode cX3_agreeWith 39 = .ok (.ireturn, 1) := by decide +kernel
theorem dX4_init_0 : decode cX4_init 0 = .ok (.aload_n 0, 1) := by decide +kernel
theorem dX4_init_1 : decode cX4_init 1 = .ok (.invokespecial 1, 3) := by decide +kernel
theorem dX4_init_4 : decode cX4_init 4 = .ok (.aload_n 0, 1) := by decide +kernel
theorem dX4_init_5 : decode cX4_init 5 = .ok (.sipush 160, 3) := by decide +kernel
theorem dX4_init_8 : decode cX4_init 8 = .ok (.newarray .byte, 2) := by decide +kernel
theorem dX4_init_10 : decode cX4_init 10 = .ok (.putfield 9, 3) := by decide +kernel
theorem dX4_init_13 : decode cX4_init 13 = .ok (.return_, 1) := by decide +kernel
theorem dX4_addByte_0 : decode cX4_addByte 0 = .ok (.aload_n 0, 1) := by decide +kernel
theorem dX4_addByte_1 : decode cX4_addByte 1 = .ok (.getfield 13, 3) := by decide +kernel
theorem dX4_addByte_4 : decode cX4_addByte 4 = .ok (.sipush 160, 3) := by decide +kernel
theorem dX4_addByte_7 : decode cX4_addByte 7 = .ok (.if_icmp .lt 5, 3) := by decide +kernel
theorem dX4_addByte_10 : decode cX4_addByte 10 = .ok (.iconst 0, 1) := by decide +kernel
theorem dX4_addByte_11 : decode cX4_addByte 11 = .ok (.ireturn, 1) := by decide +kernel
theorem dX4_addByte_12 : decode cX4_addByte 12 = .ok (.aload_n 0, 1) := by decide +kernel
theorem dX4_addByte_13 : decode cX4_addByte 13 = .ok (.getfield 9, 3) := by decide +kernel
theorem dX4_addByte_16 : decode cX4_addByte 16 = .ok (.aload_n 0, 1) := by decide +kernel
theorem dX4_addByte_17 : decode cX4_addByte 17 = .ok (.getfield 13, 3) := by decide +kernel
theorem dX4_addByte_20 : decode cX4_addByte 20 = .ok (.iload_n 1, 1) := by decide +kernel
theorem dX4_addByte_21 : decode cX4_addByte 21 = .ok (.i2b, 1) := by decide +kernel
theorem dX4_addByte_22 : decode cX4_addByte 22 = .ok (.bastore, 1) := by decide +kernel
theorem dX4_addByte_23 : decode cX4_addByte 23 = .ok (.aload_n 0, 1) := by decide +kernel
theorem dX4_addByte_24 : decode cX4_addByte 24 = .ok (.dup, 1) := by decide +kernel
theorem dX4_addByte_25 : decode cX4_addByte 25 = .ok (.getfield 13, 3) := by decide +kernel
theorem dX4_addByte_28 : decode cX4_addByte 28 = .ok (.iconst 1, 1) := by decide +kernel
theorem dX4_addByte_29 : decode cX4_addByte 29 = .ok (.iadd, 1) := by decide +kernel
theorem dX4_addByte_30 : decode cX4_addByte 30 = .ok (.putfield 13, 3) := by decide +kernel
theorem dX4_addByte_33 : decode cX4_addByte 33 = .ok (.iconst 1, 1) := by decide +kernel
theorem dX4_addByte_34 : decode cX4_addByte 34 = .ok (.ireturn, 1) := by decide +kernel
theorem dX5_init_0 : decode cX5_init 0 = .ok (.aload_n 0, 1) := by decide +kernel
theorem dX5_init_1 : decode cX5_init 1 = .ok (.invokespecial 3, 3) := by decide +kernel
theorem dX5_init_4 : decode cX5_init 4 = .ok (.aload_n 0, 1) := by decide +kernel
theorem dX5_init_5 : decode cX5_init 5 = .ok (.iconst 4, 1) := by decide +kernel
theorem dX5_init_6 : decode cX5_init 6 = .ok (.newarray .int, 2) := by decide +kernel
theorem dX5_init_8 : decode cX5_init 8 = .ok (.putfield 9, 3) := by decide +kernel
theorem dX5_init_11 : decode cX5_init 11 = .ok (.aload_n 0, 1) := by decide +kernel
theorem dX5_init_12 : decode cX5_init 12 = .ok (.iconst 4, 1) := by decide +kernel
theorem dX5_init_13 : decode cX5_init 13 = .ok (.newarray .int, 2) := by decide +kernel
theorem dX5_init_15 : decode cX5_init 15 = .ok (.putfield 15, 3) := by decide +kernel
theorem dX5_init_18 : decode cX5_init 18 = .ok (.aload_n 0, 1) := by decide +kernel
theorem dX5_init_19 : decode cX5_init 19 = .ok (.iconst 4, 1) := by decide +kernel
theorem dX5_init_20 : decode cX5_init 20 = .ok (.newarray .int, 2) := by decide +kernel
theorem dX5_init_22 : decode cX5_init 22 = .ok (.putfield 18, 3) := by decide +kernel
theorem dX5_init_25 : decode cX5_init 25 = .ok (.aload_n 0, 1) := by decide +kernel
theorem dX5_init_26 : decode cX5_init 26 = .ok (.iconst 4, 1) := by decide +kernel
theorem dX5_init_27 : decode cX5_init 27 = .ok (.newarray .int, 2) := by decide +kernel
theorem dX5_init_29 : decode cX5_init 29 = .ok (.putfield 21, 3) := by decide +kernel
theorem dX5_init_32 : decode cX5_init 32 = .ok (.aload_n 0, 1) := by decide +kernel
theorem dX5_init_33 : decode cX5_init 33 = .ok (.bipush 8, 2) := by decide +kernel
theorem dX5_init_35 : decode cX5_init 35 = .ok (.newarray .int, 2) := by decide +kernel
theorem dX5_init_37 : decode cX5_init 37 = .ok (.putfield 24, 3) := by decide +kernel
theorem dX5_init_40 : decode cX5_init 40 = .ok (.aload_n 0, 1) := by decide +kernel
theorem dX5_init_41 : decode cX5_init 41 = .ok (.bipush 8, 2) := by decide +kernel
theorem dX5_init_43 : decode cX5_init 43 = .ok (.newarray .int, 2) := by decide +kernel
theorem dX5_init_45 : decode cX5_init 45 = .ok (.putfield 27, 3) := by decide +kernel
theorem dX5_init_48 : decode cX5_init 48 = .ok (.aload_n 0, 1) := by decide +kernel
theorem dX5_init_49 : decode cX5_init 49 = .ok (.bipush 8, 2) := by decide +kernel
theorem dX5_init_51 : decode cX5_init 51 = .ok (.newarray .int, 2) := by decide +kernel
theorem dX5_init_53 : decode cX5_init 53 = .ok (.putfield 30, 3) := by decide +kernel
theorem dX5_init_56 : decode cX5_init 56 = .ok (.aload_n 0, 1) := by decide +kernel
theorem dX5_init_57 : decode cX5_init 57 = .ok (.bipush 8, 2) := by decide +kernel
theorem dX5_init_59 : decode cX5_init 59 = .ok (.newarray .int, 2) := by decide +kernel
theorem dX5_init_61 : decode cX5_init 61 = .ok (.putfield 33, 3) := by decide +kernel
theorem dX5_init_64 : decode cX5_init 64 = .ok (.aload_n 0, 1) := by decide +kernel
theorem dX5_init_65 : decode cX5_init 65 = .ok (.bipush 7, 2) := by decide +kernel
theorem dX5_init_67 : decode cX5_init 67 = .ok (.newarray .int, 2) := by decide +kernel
theorem dX5_init_69 : decode cX5_init 69 = .ok (.putfield 36, 3) := by decide +kernel
theorem dX5_init_72 : decode cX5_init 72 = .ok (.aload_n 0, 1) := by decide +kernel
theorem dX5_init_73 : decode cX5_init 73 = .ok (.getfield 36, 3) := by decide +kernel
theorem dX5_init_76 : decode cX5_init 76 = .ok (.iconst 4, 1) := by decide +kernel
theorem dX5_init_77 : decode cX5_init 77 = .ok (.invokestatic 39, 3) := by decide +kernel
theorem dX5_init_80 : decode cX5_init 80 = .ok (.aload_n 0, 1) := by decide +kernel
theorem dX5_init_81 : decode cX5_init 81 = .ok (.iconst 4, 1) := by decide +kernel
theorem dX5_init_82 : decode cX5_init 82 = .ok (.putfield 45, 3) := by decide +kernel
theorem dX5_init_85 : decode cX5_init 85 = .ok (.return_, 1) := by decide +kernel
theorem dX5_clear_0 : decode cX5_clear 0 = .ok (.aload_n 0, 1) := by decide +kernel
theorem dX5_clear_1 : decode cX5_clear 1 = .ok (.iconst 0, 1) := by decide +kernel
theorem dX5_clear_2 : decode cX5_clear 2 = .ok (.putfield 49, 3) := by decide +kernel
theorem dX5_clear_5 : decode cX5_clear 5 = .ok (.aload_n 0, 1) := by decide +kernel
theorem dX5_clear_6 : decode cX5_clear 6 = .ok (.iconst 0, 1) := by decide +kernel
theorem dX5_clear_7 : decode cX5_clear 7 = .ok (.putfield 52, 3) := by decide +kernel
theorem dX5_clear_10 : decode cX5_clear 10 = .ok (.aload_n 0, 1) := by decide +kernel
theorem dX5_clear_11 : decode cX5_clear 11 = .ok (.iconst 0, 1) := by decide +kernel
theorem dX5_clear_12 : decode cX5_clear 12 = .ok (.putfield 55, 3) := by decide +kernel
theorem dX5_clear_15 : decode cX5_clear 15 = .ok (.aload_n 0, 1) := by decide +kernel
theorem dX5_clear_16 : decode cX5_clear 16 = .ok (.iconst 0, 1) := by decide +kernel
theorem dX5_clear_17 : decode cX5_clear 17 = .ok (.putfield 58, 3) := by decide +kernel
theorem dX5_clear_20 : decode cX5_clear 20 = .ok (.aload_n 0, 1) := by decide +kernel
theorem dX5_clear_21 : decode cX5_clear 21 = .ok (.iconst 0, 1) := by decide +kernel
theorem dX5_clear_22 : decode cX5_clear 22 = .ok (.putfield 61, 3) := by decide +kernel
theorem dX5_clear_25 : decode cX5_clear 25 = .ok (.aload_n 0, 1) := by decide +kernel
theorem dX5_clear_26 : decode cX5_clear 26 = .ok (.getfield 36, 3) := by decide +kernel
theorem dX5_clear_29 : decode cX5_clear 29 = .ok (.iconst 4, 1) := by decide +kernel
theorem dX5_clear_30 : decode cX5_clear 30 = .ok (.invokestatic 39, 3) := by decide +kernel
theorem dX5_clear_33 : decode cX5_clear 33 = .ok (.aload_n 0, 1) := by decide +kernel
theorem dX5_clear_34 : decode cX5_clear 34 = .ok (.iconst 4, 1) := by decide +kernel
theorem dX5_clear_35 : decode cX5_clear 35 = .ok (.putfield 45, 3) := by decide +kernel
theorem dX5_clear_38 : decode cX5_clear 38 = .ok (.aload_n 0, 1) := by decide +kernel
theorem dX5_clear_39 : decode cX5_clear 39 = .ok (.iconst 0, 1) := by decide +kernel
theorem dX5_clear_40 : decode cX5_clear 40 = .ok (.putfield 64, 3) := by decide +kernel
theorem dX5_clear_43 : decode cX5_clear 43 = .ok (.aload_n 0, 1) := by decide +kernel
theorem dX5_clear_44 : decode cX5_clear 44 = .ok (.iconst 0, 1) := by decide +kernel
theorem dX5_clear_45 : decode cX5_clear 45 = .ok (.putfield 67, 3) := by decide +kernel
theorem dX5_clear_48 : decode cX5_clear 48 = .ok (.aload_n 0, 1) := by decide +kernel
theorem dX5_clear_49 : decode cX5_clear 49 = .ok (.iconst 0, 1) := by decide +kernel
theorem dX5_clear_50 : decode cX5_clear 50 = .ok (.putfield 70, 3) := by decide +kernel
theorem dX5_clear_53 : decode cX5_clear 53 = .ok (.return_, 1) := by decide +kernel
theorem dX5_copyFrom_0 : decode cX5_copyFrom 0 = .ok (.aload_n 0, 1) := by decide +kernel
theorem dX5_copyFrom_1 : decode cX5_copyFrom 1 = .ok (.aload_n 1, 1) := by decide +kernel
theorem dX5_copyFrom_2 : decode cX5_copyFrom 2 = .ok (.getfield 49, 3) := by decide +kernel
theorem dX5_copyFrom_5 : decode cX5_copyFrom 5 = .ok (.putfield 49, 3) := by decide +kernel
theorem dX5_copyFrom_8 : decode cX5_copyFrom 8 = .ok (.aload_n 0, 1) := by decide +kernel
theorem dX5_copyFrom_9 : decode cX5_copyFrom 9 = .ok (.aload_n 1, 1) := by decide +kernel
theorem dX5_copyFrom_10 : decode cX5_copyFrom 10 = .ok (.getfield 52, 3) := by decide +kernel
theorem dX5_copyFrom_13 : decode cX5_copyFrom 13 = .ok (.putfield 52, 3) := by decide +kernel
theorem dX5_copyFrom_16 : decode cX5_copyFrom 16 = .ok (.aload_n 0, 1) := by decide +kernel
theorem dX5_copyFrom_17 : decode cX5_copyFrom 17 = .ok (.aload_n 1, 1) := by decide +kernel
theorem dX5_copyFrom_18 : decode cX5_copyFrom 18 = .ok (.getfield 55, 3) := by decide +kernel
theorem dX5_copyFrom_21 : decode cX5_copyFrom 21 = .ok (.putfield 55, 3) := by decide +kernel
theorem dX5_copyFrom_24 : decode cX5_copyFrom 24 = .ok (.aload_n 0, 1) := by decide +kernel
theorem dX5_copyFrom_25 : decode cX5_copyFrom 25 = .ok (.aload_n 1, 1) := by decide +kernel
theorem dX5_copyFrom_26 : decode cX5_copyFrom 26 = .ok (.getfield 58, 3) := by decide +kernel
theorem dX5_copyFrom_29 : decode cX5_copyFrom 29 = .ok (.putfield 58, 3) := by decide +kernel
theorem dX5_copyFrom_32 : decode cX5_copyFrom 32 = .ok (.aload_n 0, 1) := by decide +kernel
theorem dX5_copyFrom_33 : decode cX5_copyFrom 33 = .ok (.aload_n 1, 1) := by decide +kernel
theorem dX5_copyFrom_34 : decode cX5_copyFrom 34 = .ok (.getfield 61, 3) := by decide +kernel
theorem dX5_copyFrom_37 : decode cX5_copyFrom 37 = .ok (.putfield 61, 3) := by decide +kernel
theorem dX5_copyFrom_40 : decode cX5_copyFrom 40 = .ok (.aload_n 0, 1) := by decide +kernel
theorem dX5_copyFrom_41 : decode cX5_copyFrom 41 = .ok (.aload_n 1, 1) := by decide +kernel
theorem dX5_copyFrom_42 : decode cX5_copyFrom 42 = .ok (.getfield 45, 3) := by decide +kernel
theorem dX5_copyFrom_45 : decode cX5_copyFrom 45 = .ok (.putfield 45, 3) := by decide +kernel
theorem dX5_copyFrom_48 : decode cX5_copyFrom 48 = .ok (.aload_n 0, 1) := by decide +kernel
theorem dX5_copyFrom_49 : decode cX5_copyFrom 49 = .ok (.aload_n 1, 1) := by decide +kernel
theorem dX5_copyFrom_50 : decode cX5_copyFrom 50 = .ok (.getfield 64, 3) := by decide +kernel
theorem dX5_copyFrom_53 : decode cX5_copyFrom 53 = .ok (.putfield 64, 3) := by decide +kernel
theorem dX5_copyFrom_56 : decode cX5_copyFrom 56 = .ok (.aload_n 0, 1) := by decide +kernel
theorem dX5_copyFrom_57 : decode cX5_copyFrom 57 = .ok (.aload_n 1, 1) := by decide +kernel
theorem dX5_copyFrom_58 : decode cX5_copyFrom 58 = .ok (.getfield 67, 3) := by decide +kernel
theorem dX5_copyFrom_61 : decode cX5_copyFrom 61 = .ok (.putfield 67, 3) := by decide +kernel
theorem dX5_copyFrom_64 : decode cX5_copyFrom 64 = .ok (.aload_n 0, 1) := by decide +kernel
theorem dX5_copyFrom_65 : decode cX5_copyFrom 65 = .ok (.aload_n 1, 1) := by decide +kernel
theorem dX5_copyFrom_66 : decode cX5_copyFrom 66 = .ok (.getfield 70, 3) := by decide +kernel
theorem dX5_copyFrom_69 : decode cX5_copyFrom 69 = .ok (.putfield 70, 3) := by decide +kernel
theorem dX5_copyFrom_72 : decode cX5_copyFrom 72 = .ok (.aload_n 1, 1) := by decide +kernel
theorem dX5_copyFrom_73 : decode cX5_copyFrom 73 = .ok (.getfield 9, 3) := by decide +kernel
theorem dX5_copyFrom_76 : decode cX5_copyFrom 76 = .ok (.aload_n 0, 1) := by decide +kernel
theorem dX5_copyFrom_77 : decode cX5_copyFrom 77 = .ok (.getfield 9, 3) := by decide +kernel
theorem dX5_copyFrom_80 : decode cX5_copyFrom 80 = .ok (.invokestatic 73, 3) := by decide +kernel
theorem dX5_copyFrom_83 : decode cX5_copyFrom 83 = .ok (.aload_n 1, 1) := by decide +kernel
theorem dX5_copyFrom_84 : decode cX5_copyFrom 84 = .ok (.getfield 15, 3) := by decide +kernel
theorem dX5_copyFrom_87 : decode cX5_copyFrom 87 = .ok (.aload_n 0, 1) := by decide +kernel
theorem dX5_copyFrom_88 : decode cX5_copyFrom 88 = .ok (.getfield 15, 3) := by decide +kernel
theorem dX5_copyFrom_91 : decode cX5_copyFrom 91 = .ok (.invokestatic 73, 3) := by decide +kernel
theorem dX5_copyFrom_94 : decode cX5_copyFrom 94 = .ok (.aload_n 1, 1) := by decide +kernel
theorem dX5_copyFrom_95 : decode cX5_copyFrom 95 = .ok (.getfield 18, 3) := by decide +kernel
theorem dX5_copyFrom_98 : decode cX5_copyFrom 98 = .ok (.aload_n 0, 1) := by decide +kernel
theorem dX5_copyFrom_99 : decode cX5_copyFrom 99 = .ok (.getfield 18, 3) := by decide +kernel
theorem dX5_copyFrom_102 : decode cX5_copyFrom 102 = .ok (.invokestatic 73, 3) := by decide +kernel
theorem dX5_copyFrom_105 : decode cX5_copyFrom 105 = .ok (.aload_n 1, 1) := by decide +kernel
theorem dX5_copyFrom_106 : decode cX5_copyFrom 106 = .ok (.getfield 21, 3) := by decide +kernel
theorem dX5_copyFrom_109 : decode cX5_copyFrom 109 = .ok (.aload_n 0, 1) := by decide +kernel
theorem dX5_copyFrom_110 : decode cX5_copyFrom 110 = .ok (.getfield 21, 3) := by decide +kernel
theorem dX5_copyFrom_113 : decode cX5_copyFrom 113 = .ok (.invokestatic 73, 3) := by decide +kernel
theorem dX5_copyFrom_116 : decode cX5_copyFrom 116 = .ok (.aload_n 1, 1) := by decide +kernel
theorem dX5_copyFrom_117 : decode cX5_copyFrom 117 = .ok (.getfield 24, 3) := by decide +kernel
theorem dX5_copyFrom_120 : decode cX5_copyFrom 120 = .ok (.aload_n 0, 1) := by decide +kernel
theorem dX5_copyFrom_121 : decode cX5_copyFrom 121 = .ok (.getfield 24, 3) := by decide +kernel
theorem dX5_copyFrom_124 : decode cX5_copyFrom 124 = .ok (.invokestatic 73, 3) := by decide +kernel
theorem dX5_copyFrom_127 : decode cX5_copyFrom 127 = .ok (.aload_n 1, 1) := by decide +kernel
theorem dX5_copyFrom_128 : decode cX5_copyFrom 128 = .ok (.getfield 27, 3) := by decide +kernel
theorem dX5_copyFrom_131 : decode cX5_copyFrom 131 = .ok (.aload_n 0, 1) := by decide +kernel
theorem dX5_copyFrom_132 : decode cX5_copyFrom 132 = .ok (.getfield 27, 3) := by decide +kernel
theorem dX5_copyFrom_135 : decode cX5_copyFrom 135 = .ok (.invokestatic 73, 3) := by decide +kernel
theorem dX5_copyFrom_138 : decode cX5_copyFrom 138 = .ok (.aload_n 1, 1) := by decide +kernel
theorem dX5_copyFrom_139 : decode cX5_copyFrom 139 = .ok (.getfield 30, 3) := by decide +kernel
theorem dX5_copyFrom_142 : decode cX5_copyFrom 142 = .ok (.aload_n 0, 1) := by decide +kernel
theorem dX5_copyFrom_143 : decode cX5_copyFrom 143 = .ok (.getfield 30, 3) := by decide +kernel
theorem dX5_copyFrom_146 : decode cX5_copyFrom 146 = .ok (.invokestatic 73, 3) := by decide +kernel
theorem dX5_copyFrom_149 : decode cX5_copyFrom 149 = .ok (.aload_n 1, 1) := by decide +kernel
theorem dX5_copyFrom_150 : decode cX5_copyFrom 150 = .ok (.getfield 33, 3) := by decide +kernel
theorem dX5_copyFrom_153 : decode cX5_copyFrom 153 = .ok (.aload_n 0, 1) := by decide +kernel
theorem dX5_copyFrom_154 : decode cX5_copyFrom 154 = .ok (.getfield 33, 3) := by decide +kernel
theorem dX5_copyFrom_157 : decode cX5_copyFrom 157 = .ok (.invokestatic 73, 3) := by decide +kernel
theorem dX5_copyFrom_160 : decode cX5_copyFrom 160 = .ok (.aload_n 1, 1) := by decide +kernel
theorem dX5_copyFrom_161 : decode cX5_copyFrom 161 = .ok (.getfield 36, 3) := by decide +kernel
theorem dX5_copyFrom_164 : decode cX5_copyFrom 164 = .ok (.aload_n 0, 1) := by decide +kernel
theorem dX5_copyFrom_165 : decode cX5_copyFrom 165 = .ok (.getfield 36, 3) := by decide +kernel
theorem dX5_copyFrom_168 : decode cX5_copyFrom 168 = .ok (.invokestatic 73, 3) := by decide +kernel
theorem dX5_copyFrom_171 : decode cX5_copyFrom 171 = .ok (.return_, 1) := by decide +kernel
theorem dX5_copyRow_0 : decode cX5_copyRow 0 = .ok (.aload_n 0, 1) := by decide +kernel
theorem dX5_copyRow_1 : decode cX5_copyRow 1 = .ok (.iconst 0, 1) := by decide +kernel
theorem dX5_copyRow_2 : decode cX5_copyRow 2 = .ok (.aload_n 1, 1) := by decide +kernel
theorem dX5_copyRow_3 : decode cX5_copyRow 3 = .ok (.iconst 0, 1) := by decide +kernel
theorem dX5_copyRow_4 : decode cX5_copyRow 4 = .ok (.aload_n 0, 1) := by decide +kernel
theorem dX5_copyRow_5 : decode cX5_copyRow 5 = .ok (.arraylength, 1) := by decide +kernel
theorem dX5_copyRow_6 : decode cX5_copyRow 6 = .ok (.aload_n 1, 1) := by decide +kernel
theorem dX5_copyRow_7 : decode cX5_copyRow 7 = .ok (.arraylength, 1) := by decide +kernel
theorem dX5_copyRow_8 : decode cX5_copyRow 8 = .ok (.invokestatic 77, 3) := by decide +kernel
theorem dX5_copyRow_11 : decode cX5_copyRow 11 = .ok (.invokestatic 83, 3) := by decide +kernel
theorem dX5_copyRow_14 : decode cX5_copyRow 14 = .ok (.return_, 1) := by decide +kernel
theorem dX5_addHouse_0 : decode cX5_addHouse 0 = .ok (.aload_n 0, 1) := by decide +kernel
theorem dX5_addHouse_1 : decode cX5_addHouse 1 = .ok (.getfield 49, 3) := by decide +kernel
theorem dX5_addHouse_4 : decode cX5_addHouse 4 = .ok (.iconst 4, 1) := by decide +kernel
theorem dX5_addHouse_5 : decode cX5_addHouse 5 = .ok (.if_icmp .ge 54, 3) := by decide +kernel
theorem dX5_addHouse_8 : decode cX5_addHouse 8 = .ok (.aload_n 0, 1) := by decide +kernel
theorem dX5_addHouse_9 : decode cX5_addHouse 9 = .ok (.getfield 9, 3) := by decide +kernel
theorem dX5_addHouse_12 : decode cX5_addHouse 12 = .ok (.aload_n 0, 1) := by decide +kernel
theorem dX5_addHouse_13 : decode cX5_addHouse 13 = .ok (.getfield 49, 3) := by decide +kernel
theorem dX5_addHouse_16 : decode cX5_addHouse 16 = .ok (.iload_n 1, 1) := by decide +kernel
theorem dX5_addHouse_17 : decode cX5_addHouse 17 = .ok (.iastore, 1) := by decide +kernel
theorem dX5_addHouse_18 : decode cX5_addHouse 18 = .ok (.aload_n 0, 1) := by decide +kernel
theorem dX5_addHouse_19 : decode cX5_addHouse 19 = .ok (.getfield 15, 3) := by decide +kernel
theorem dX5_addHouse_22 : decode cX5_addHouse 22 = .ok (.aload_n 0, 1) := by decide +kernel
theorem dX5_addHouse_23 : decode cX5_addHouse 23 = .ok (.getfield 49, 3) := by decide +kernel
theorem dX5_addHouse_26 : decode cX5_addHouse 26 = .ok (.iload_n 2, 1) := by decide +kernel
theorem dX5_addHouse_27 : decode cX5_addHouse 27 = .ok (.iastore, 1) := by decide +kernel
theorem dX5_addHouse_28 : decode cX5_addHouse 28 = .ok (.aload_n 0, 1) := by decide +kernel
theorem dX5_addHouse_29 : decode cX5_addHouse 29 = .ok (.getfield 18, 3) := by decide +kernel
theorem dX5_addHouse_32 : decode cX5_addHouse 32 = .ok (.aload_n 0, 1) := by decide +kernel
theorem dX5_addHouse_33 : decode cX5_addHouse 33 = .ok (.getfield 49, 3) := by decide +kernel
theorem dX5_addHouse_36 : decode cX5_addHouse 36 = .ok (.iload_n 3, 1) := by decide +kernel
theorem dX5_addHouse_37 : decode cX5_addHouse 37 = .ok (.iastore, 1) := by decide +kernel
theorem dX5_addHouse_38 : decode cX5_addHouse 38 = .ok (.aload_n 0, 1) := by decide +kernel
theorem dX5_addHouse_39 : decode cX5_addHouse 39 = .ok (.getfield 21, 3) := by decide +kernel
theorem dX5_addHouse_42 : decode cX5_addHouse 42 = .ok (.aload_n 0, 1) := by decide +kernel
theorem dX5_addHouse_43 : decode cX5_addHouse 43 = .ok (.getfield 49, 3) := by decide +kernel
theorem dX5_addHouse_46 : decode cX5_addHouse 46 = .ok (.bipush 50, 2) := by decide +kernel
theorem dX5_addHouse_48 : decode cX5_addHouse 48 = .ok (.iastore, 1) := by decide +kernel
theorem dX5_addHouse_49 : decode cX5_addHouse 49 = .ok (.aload_n 0, 1) := by decide +kernel
theorem dX5_addHouse_50 : decode cX5_addHouse 50 = .ok (.dup, 1) := by decide +kernel
theorem dX5_addHouse_51 : decode cX5_addHouse 51 = .ok (.getfield 49, 3) := by decide +kernel
theorem dX5_addHouse_54 : decode cX5_addHouse 54 = .ok (.iconst 1, 1) := by decide +kernel
theorem dX5_addHouse_55 : decode cX5_addHouse 55 = .ok (.iadd, 1) := by decide +kernel
theorem dX5_addHouse_56 : decode cX5_addHouse 56 = .ok (.putfield 49, 3) := by decide +kernel
theorem dX5_addHouse_59 : decode cX5_addHouse 59 = .ok (.return_, 1) := by decide +kernel
theorem dX5_addThing_0 : decode cX5_addThing 0 = .ok (.aload_n 0, 1) := by decide +kernel
theorem dX5_addThing_1 : decode cX5_addThing 1 = .ok (.getfield 52, 3) := by decide +kernel
theorem dX5_addThing_4 : decode cX5_addThing 4 = .ok (.bipush 8, 2) := by decide +kernel
theorem dX5_addThing_6 : decode cX5_addThing 6 = .ok (.if_icmp .ge 54, 3) := by decide +kernel
theorem dX5_addThing_9 : decode cX5_addThing 9 = .ok (.aload_n 0, 1) := by decide +kernel
theorem dX5_addThing_10 : decode cX5_addThing 10 = .ok (.getfield 24, 3) := by decide +kernel
theorem dX5_addThing_13 : decode cX5_addThing 13 = .ok (.aload_n 0, 1) := by decide +kernel
theorem dX5_addThing_14 : decode cX5_addThing 14 = .ok (.getfield 52, 3) := by decide +kernel
theorem dX5_addThing_17 : decode cX5_addThing 17 = .ok (.iload_n 1, 1) := by decide +kernel
theorem dX5_addThing_18 : decode cX5_addThing 18 = .ok (.iastore, 1) := by decide +kernel
theorem dX5_addThing_19 : decode cX5_addThing 19 = .ok (.aload_n 0, 1) := by decide +kernel
theorem dX5_addThing_20 : decode cX5_addThing 20 = .ok (.getfield 27, 3) := by decide +kernel
theorem dX5_addThing_23 : decode cX5_addThing 23 = .ok (.aload_n 0, 1) := by decide +kernel
theorem dX5_addThing_24 : decode cX5_addThing 24 = .ok (.getfield 52, 3) := by decide +kernel
theorem dX5_addThing_27 : decode cX5_addThing 27 = .ok (.iload_n 2, 1) := by decide +kernel
theorem dX5_addThing_28 : decode cX5_addThing 28 = .ok (.iastore, 1) := by decide +kernel
theorem dX5_addThing_29 : decode cX5_addThing 29 = .ok (.aload_n 0, 1) := by decide +kernel
theorem dX5_addThing_30 : decode cX5_addThing 30 = .ok (.getfield 30, 3) := by decide +kernel
theorem dX5_addThing_33 : decode cX5_addThing 33 = .ok (.aload_n 0, 1) := by decide +kernel
theorem dX5_addThing_34 : decode cX5_addThing 34 = .ok (.getfield 52, 3) := by decide +kernel
theorem dX5_addThing_37 : decode cX5_addThing 37 = .ok (.iload_n 3, 1) := by decide +kernel
theorem dX5_addThing_38 : decode cX5_addThing 38 = .ok (.iastore, 1) := by decide +kernel
theorem dX5_addThing_39 : decode cX5_addThing 39 = .ok (.aload_n 0, 1) := by decide +kernel
theorem dX5_addThing_40 : decode cX5_addThing 40 = .ok (.getfield 33, 3) := by decide +kernel
theorem dX5_addThing_43 : decode cX5_addThing 43 = .ok (.aload_n 0, 1) := by decide +kernel
theorem dX5_addThing_44 : decode cX5_addThing 44 = .ok (.getfield 52, 3) := by decide +kernel
theorem dX5_addThing_47 : decode cX5_addThing 47 = .ok (.iload 4, 2) := by decide +kernel
theorem dX5_addThing_49 : decode cX5_addThing 49 = .ok (.iastore, 1) := by decide +kernel
theorem dX5_addThing_50 : decode cX5_addThing 50 = .ok (.aload_n 0, 1) := by decide +kernel
theorem dX5_addThing_51 : decode cX5_addThing 51 = .ok (.dup, 1) := by decide +kernel
theorem dX5_addThing_52 : decode cX5_addThing 52 = .ok (.getfield 52, 3) := by decide +kernel
theorem dX5_addThing_55 : decode cX5_addThing 55 = .ok (.iconst 1, 1) := by decide +kernel
theorem dX5_addThing_56 : decode cX5_addThing 56 = .ok (.iadd, 1) := by decide +kernel
theorem dX5_addThing_57 : decode cX5_addThing 57 = .ok (.putfield 52, 3) := by decide +kernel
theorem dX5_addThing_60 : decode cX5_addThing 60 = .ok (.return_, 1) := by decide +kernel
theorem dX5_isHouse_0 : decode cX5_isHouse 0 = .ok (.iload_n 1, 1) := by decide +kernel
theorem dX5_isHouse_1 : decode cX5_isHouse 1 = .ok (.iconst 0, 1) := by decide +kernel
theorem dX5_isHouse_2 : decode cX5_isHouse 2 = .ok (.aload_n 0, 1) := by decide +kernel
theorem dX5_isHouse_3 : decode cX5_isHouse 3 = .ok (.getfield 49, 3) := by decide +kernel
theorem dX5_isHouse_6 : decode cX5_isHouse 6 = .ok (.iconst 1, 1) := by decide +kernel
theorem dX5_isHouse_7 : decode cX5_isHouse 7 = .ok (.isub, 1) := by decide +kernel
theorem dX5_isHouse_8 : decode cX5_isHouse 8 = .ok (.invokestatic 89, 3) := by decide +kernel
theorem dX5_isHouse_11 : decode cX5_isHouse 11 = .ok (.ireturn, 1) := by decide +kernel
theorem dX5_isThing_0 : decode cX5_isThing 0 = .ok (.iload_n 1, 1) := by decide +kernel
theorem dX5_isThing_1 : decode cX5_isThing 1 = .ok (.iconst 0, 1) := by decide +kernel
theorem dX5_isThing_2 : decode cX5_isThing 2 = .ok (.aload_n 0, 1) := by decide +kernel
theorem dX5_isThing_3 : decode cX5_isThing 3 = .ok (.getfield 52, 3) := by decide +kernel
theorem dX5_isThing_6 : decode cX5_isThing 6 = .ok (.iconst 1, 1) := by decide +kernel
theorem dX5_isThing_7 : decode cX5_isThing 7 = .ok (.isub, 1) := by decide +kernel
theorem dX5_isThing_8 : decode cX5_isThing 8 = .ok (.invokestatic 89, 3) := by decide +kernel
theorem dX5_isThing_11 : decode cX5_isThing 11 = .ok (.ireturn, 1) := by decide +kernel
theorem dX5_hasHomes_0 : decode cX5_hasHomes 0 = .ok (.iconst 0, 1) := by decide +kernel
theorem dX5_hasHomes_1 : decode cX5_hasHomes 1 = .ok (.istore_n 1, 1) := by decide +kernel
theorem dX5_hasHomes_2 : decode cX5_hasHomes 2 = .ok (.iload_n 1, 1) := by decide +kernel
theorem dX5_hasHomes_3 : decode cX5_hasHomes 3 = .ok (.aload_n 0, 1) := by decide +kernel
theorem dX5_hasHomes_4 : decode cX5_hasHomes 4 = .ok (.getfield 52, 3) := by decide +kernel
theorem dX5_hasHomes_7 : decode cX5_hasHomes 7 = .ok (.if_icmp .ge 24, 3) := by decide +kernel
theorem dX5_hasHomes_10 : decode cX5_hasHomes 10 = .ok (.aload_n 0, 1) := by decide +kernel
theorem dX5_hasHomes_11 : decode cX5_hasHomes 11 = .ok (.aload_n 0, 1) := by decide +kernel
theorem dX5_hasHomes_12 : decode cX5_hasHomes 12 = .ok (.getfield 27, 3) := by decide +kernel
theorem dX5_hasHomes_15 : decode cX5_hasHomes 15 = .ok (.iload_n 1, 1) := by decide +kernel
theorem dX5_hasHomes_16 : decode cX5_hasHomes 16 = .ok (.iaload, 1) := by decide +kernel
theorem dX5_hasHomes_17 : decode cX5_hasHomes 17 = .ok (.invokevirtual 93, 3) := by decide +kernel
theorem dX5_hasHomes_20 : decode cX5_hasHomes 20 = .ok (.ifCond .ne 5, 3) := by decide +kernel
theorem dX5_hasHomes_23 : decode cX5_hasHomes 23 = .ok (.iconst 0, 1) := by decide +kernel
theorem dX5_hasHomes_24 : decode cX5_hasHomes 24 = .ok (.ireturn, 1) := by decide +kernel
theorem dX5_hasHomes_25 : decode cX5_hasHomes 25 = .ok (.iinc 1 1, 3) := by decide +kernel
theorem dX5_hasHomes_28 : decode cX5_hasHomes 28 = .ok (.goto (-26), 3) := by decide +kernel
theorem dX5_hasHomes_31 : decode cX5_hasHomes 31 = .ok (.iconst 1, 1) := by decide +kernel
theorem dX5_hasHomes_32 : decode cX5_hasHomes 32 = .ok (.ireturn, 1) := by decide +kernel
theorem dX5_houseRow_0 : decode cX5_houseRow 0 = .ok (.iload_n 1, 1) := by decide +kernel
theorem dX5_houseRow_1 : decode cX5_houseRow 1 = .ok (.tableswitch 42 0 2 #[27, 32, 37], 27) := by decide +kernel
theorem dX5_houseRow_28 : decode cX5_houseRow 28 = .ok (.aload_n 0, 1) := by decide +kernel
theorem dX5_houseRow_29 : decode cX5_houseRow 29 = .ok (.getfield 9, 3) := by decide +kernel
theorem dX5_houseRow_32 : decode cX5_houseRow 32 = .ok (.areturn, 1) := by decide +kernel
theorem dX5_houseRow_33 : decode cX5_houseRow 33 = .ok (.aload_n 0, 1) := by decide +kernel
theorem dX5_houseRow_34 : decode cX5_houseRow 34 = .ok (.getfield 15, 3) := by decide +kernel
theorem dX5_houseRow_37 : decode cX5_houseRow 37 = .ok (.areturn, 1) := by decide +kernel
theorem dX5_houseRow_38 : decode cX5_houseRow 38 = .ok (.aload_n 0, 1) := by decide +kernel
theorem dX5_houseRow_39 : decode cX5_houseRow 39 = .ok (.getfield 18, 3) := by decide +kernel
theorem dX5_houseRow_42 : decode cX5_houseRow 42 = .ok (.areturn, 1) := by decide +kernel
theorem dX5_houseRow_43 : decode cX5_houseRow 43 = .ok (.aload_n 0, 1) := by decide +kernel
theorem dX5_houseRow_44 : decode cX5_houseRow 44 = .ok (.getfield 21, 3) := by decide +kernel
theorem dX5_houseRow_47 : decode cX5_houseRow 47 = .ok (.areturn, 1) := by decide +kernel
theorem dX5_thingRow_0 : decode cX5_thingRow 0 = .ok (.iload_n 1, 1) := by decide +kernel
theorem dX5_thingRow_1 : decode cX5_thingRow 1 = .ok (.lookupswitch 37 #[(0, 27), (1, 32)], 27) := by decide +kernel
theorem dX5_thingRow_28 : decode cX5_thingRow 28 = .ok (.aload_n 0, 1) := by decide +kernel
theorem dX5_thingRow_29 : decode cX5_thingRow 29 = .ok (.getfield 24, 3) := by decide +kernel
theorem dX5_thingRow_32 : decode cX5_thingRow 32 = .ok (.areturn, 1) := by decide +kernel
theorem dX5_thingRow_33 : decode cX5_thingRow 33 = .ok (.aload_n 0, 1) := by decide +kernel
theorem dX5_thingRow_34 : decode cX5_thingRow 34 = .ok (.getfield 30, 3) := by decide +kernel
theorem dX5_thingRow_37 : decode cX5_thingRow 37 = .ok (.areturn, 1) := by decide +kernel
theorem dX5_thingRow_38 : decode cX5_thingRow 38 = .ok (.aload_n 0, 1) := by decide +kernel
theorem dX5_thingRow_39 : decode cX5_thingRow 39 = .ok (.getfield 33, 3) := by decide +kernel
theorem dX5_thingRow_42 : decode cX5_thingRow 42 = .ok (.areturn, 1) := by decide +kernel
theorem dX5_isAfloat_0 : decode cX5_isAfloat 0 = .ok (.aload_n 0, 1) := by decide +kernel
theorem dX5_isAfloat_1 : decode cX5_isAfloat 1 = .ok (.getfield 55, 3) := by decide +kernel
theorem dX5_isAfloat_4 : decode cX5_isAfloat 4 = .ok (.iload_n 1, 1) := by decide +kernel
theorem dX5_isAfloat_5 : decode cX5_isAfloat 5 = .ok (.ishr, 1) := by decide +kernel
theorem dX5_isAfloat_6 : decode cX5_isAfloat 6 = .ok (.iconst 1, 1) := by decide +kernel
theorem dX5_isAfloat_7 : decode cX5_isAfloat 7 = .ok (.iand, 1) := by decide +kernel
theorem dX5_isAfloat_8 : decode cX5_isAfloat 8 = .ok (.ifCond .eq 7, 3) := by decide +kernel
theorem dX5_isAfloat_11 : decode cX5_isAfloat 11 = .ok (.iconst 1, 1) := by decide +kernel
theorem dX5_isAfloat_12 : decode cX5_isAfloat 12 = .ok (.goto 4, 3) := by decide +kernel
theorem dX5_isAfloat_15 : decode cX5_isAfloat 15 = .ok (.iconst 0, 1) := by decide +kernel
theorem dX5_isAfloat_16 : decode cX5_isAfloat 16 = .ok (.ireturn, 1) := by decide +kernel
theorem dX5_isIn_0 : decode cX5_isIn 0 = .ok (.aload_n 0, 1) := by decide +kernel
theorem dX5_isIn_1 : decode cX5_isIn 1 = .ok (.getfield 58, 3) := by decide +kernel
theorem dX5_isIn_4 : decode cX5_isIn 4 = .ok (.iload_n 1, 1) := by decide +kernel
theorem dX5_isIn_5 : decode cX5_isIn 5 = .ok (.ishr, 1) := by decide +kernel
theorem dX5_isIn_6 : decode cX5_isIn 6 = .ok (.iconst 1, 1) := by decide +kernel
theorem dX5_isIn_7 : decode cX5_isIn 7 = .ok (.iand, 1) := by decide +kernel
theorem dX5_isIn_8 : decode cX5_isIn 8 = .ok (.ifCond .eq 7, 3) := by decide +kernel
theorem dX5_isIn_11 : decode cX5_isIn 11 = .ok (.iconst 1, 1) := by decide +kernel
theorem dX5_isIn_12 : decode cX5_isIn 12 = .ok (.goto 4, 3) := by decide +kernel
theorem dX5_isIn_15 : decode cX5_isIn 15 = .ok (.iconst 0, 1) := by decide +kernel
theorem dX5_isIn_16 : decode cX5_isIn 16 = .ok (.ireturn, 1) := by decide +kernel
theorem dX5_isGone_0 : decode cX5_isGone 0 = .ok (.aload_n 0, 1) := by decide +kernel
theorem dX5_isGone_1 : decode cX5_isGone 1 = .ok (.getfield 61, 3) := by decide +kernel
theorem dX5_isGone_4 : decode cX5_isGone 4 = .ok (.iload_n 1, 1) := by decide +kernel
theorem dX5_isGone_5 : decode cX5_isGone 5 = .ok (.ishr, 1) := by decide +kernel
theorem dX5_isGone_6 : decode cX5_isGone 6 = .ok (.iconst 1, 1) := by decide +kernel
theorem dX5_isGone_7 : decode cX5_isGone 7 = .ok (.iand, 1) := by decide +kernel
theorem dX5_isGone_8 : decode cX5_isGone 8 = .ok (.ifCond .eq 7, 3) := by decide +kernel
theorem dX5_isGone_11 : decode cX5_isGone 11 = .ok (.iconst 1, 1) := by decide +kernel
theorem dX5_isGone_12 : decode cX5_isGone 12 = .ok (.goto 4, 3) := by decide +kernel
theorem dX5_isGone_15 : decode cX5_isGone 15 = .ok (.iconst 0, 1) := by decide +kernel
theorem dX5_isGone_16 : decode cX5_isGone 16 = .ok (.ireturn, 1) := by decide +kernel
theorem dX5_whereIs_0 : decode cX5_whereIs 0 = .ok (.aload_n 0, 1) := by decide +kernel
theorem dX5_whereIs_1 : decode cX5_whereIs 1 = .ok (.iload_n 1, 1) := by decide +kernel
theorem dX5_whereIs_2 : decode cX5_whereIs 2 = .ok (.invokevirtual 97, 3) := by decide +kernel
theorem dX5_whereIs_5 : decode cX5_whereIs 5 = .ok (.ifCond .eq 5, 3) := by decide +kernel
theorem dX5_whereIs_8 : decode cX5_whereIs 8 = .ok (.iconst 2, 1) := by decide +kernel
theorem dX5_whereIs_9 : decode cX5_whereIs 9 = .ok (.ireturn, 1) := by decide +kernel
theorem dX5_whereIs_10 : decode cX5_whereIs 10 = .ok (.aload_n 0, 1) := by decide +kernel
theorem dX5_whereIs_11 : decode cX5_whereIs 11 = .ok (.iload_n 1, 1) := by decide +kernel
theorem dX5_whereIs_12 : decode cX5_whereIs 12 = .ok (.invokevirtual 100, 3) := by decide +kernel
theorem dX5_whereIs_15 : decode cX5_whereIs 15 = .ok (.ifCond .eq 7, 3) := by decide +kernel
theorem dX5_whereIs_18 : decode cX5_whereIs 18 = .ok (.iconst 1, 1) := by decide +kernel
theorem dX5_whereIs_19 : decode cX5_whereIs 19 = .ok (.goto 4, 3) := by decide +kernel
theorem dX5_whereIs_22 : decode cX5_whereIs 22 = .ok (.iconst 0, 1) := by decide +kernel
theorem dX5_whereIs_23 : decode cX5_whereIs 23 = .ok (.ireturn, 1) := by decide +kernel
theorem dX5_fillOf_0 : decode cX5_fillOf 0 = .ok (.aload_n 0, 1) := by decide +kernel
theorem dX5_fillOf_1 : decode cX5_fillOf 1 = .ok (.getfield 30, 3) := by decide +kernel
theorem dX5_fillOf_4 : decode cX5_fillOf 4 = .ok (.iload_n 1, 1) := by decide +kernel
theorem dX5_fillOf_5 : decode cX5_fillOf 5 = .ok (.iaload, 1) := by decide +kernel
theorem dX5_fillOf_6 : decode cX5_fillOf 6 = .ok (.istore_n 2, 1) := by decide +kernel
theorem dX5_fillOf_7 : decode cX5_fillOf 7 = .ok (.iload_n 2, 1) := by decide +kernel
theorem dX5_fillOf_8 : decode cX5_fillOf 8 = .ok (.iconst 1, 1) := by decide +kernel
theorem dX5_fillOf_9 : decode cX5_fillOf 9 = .ok (.iadd, 1) := by decide +kernel
theorem dX5_fillOf_10 : decode cX5_fillOf 10 = .ok (.iconst 2, 1) := by decide +kernel
theorem dX5_fillOf_11 : decode cX5_fillOf 11 = .ok (.idiv, 1) := by decide +kernel
theorem dX5_fillOf_12 : decode cX5_fillOf 12 = .ok (.istore_n 3, 1) := by decide +kernel
theorem dX5_fillOf_13 : decode cX5_fillOf 13 = .ok (.aload_n 0, 1) := by decide +kernel
theorem dX5_fillOf_14 : decode cX5_fillOf 14 = .ok (.getfield 24, 3) := by decide +kernel
theorem dX5_fillOf_17 : decode cX5_fillOf 17 = .ok (.iload_n 1, 1) := by decide +kernel
theorem dX5_fillOf_18 : decode cX5_fillOf 18 = .ok (.iaload, 1) := by decide +kernel
theorem dX5_fillOf_19 : decode cX5_fillOf 19 = .ok (.tableswitch 35 1 3 #[25, 29, 31], 25) := by decide +kernel
theorem dX5_fillOf_44 : decode cX5_fillOf 44 = .ok (.iconst 2, 1) := by decide +kernel
theorem dX5_fillOf_45 : decode cX5_fillOf 45 = .ok (.iload_n 2, 1) := by decide +kernel
theorem dX5_fillOf_46 : decode cX5_fillOf 46 = .ok (.imul, 1) := by decide +kernel
theorem dX5_fillOf_47 : decode cX5_fillOf 47 = .ok (.ireturn, 1) := by decide +kernel
theorem dX5_fillOf_48 : decode cX5_fillOf 48 = .ok (.iload_n 3, 1) := by decide +kernel
theorem dX5_fillOf_49 : decode cX5_fillOf 49 = .ok (.ireturn, 1) := by decide +kernel
theorem dX5_fillOf_50 : decode cX5_fillOf 50 = .ok (.iload_n 3, 1) := by decide +kernel
theorem dX5_fillOf_51 : decode cX5_fillOf 51 = .ok (.iconst 1, 1) := by decide +kernel
theorem dX5_fillOf_52 : decode cX5_fillOf 52 = .ok (.iadd, 1) := by decide +kernel
theorem dX5_fillOf_53 : decode cX5_fillOf 53 = .ok (.ireturn, 1) := by decide +kernel
theorem dX5_fillOf_54 : decode cX5_fillOf 54 = .ok (.iload_n 2, 1) := by decide +kernel
theorem dX5_fillOf_55 : decode cX5_fillOf 55 = .ok (.ireturn, 1) := by decide +kernel
theorem dX5_costOf_0 : decode cX5_costOf 0 = .ok (.aload_n 0, 1) := by decide +kernel
theorem dX5_costOf_1 : decode cX5_costOf 1 = .ok (.getfield 33, 3) := by decide +kernel
theorem dX5_costOf_4 : decode cX5_costOf 4 = .ok (.iload_n 1, 1) := by decide +kernel
theorem dX5_costOf_5 : decode cX5_costOf 5 = .ok (.iaload, 1) := by decide +kernel
theorem dX5_costOf_6 : decode cX5_costOf 6 = .ok (.istore_n 2, 1) := by decide +kernel
theorem dX5_costOf_7 : decode cX5_costOf 7 = .ok (.aload_n 0, 1) := by decide +kernel
theorem dX5_costOf_8 : decode cX5_costOf 8 = .ok (.getfield 24, 3) := by decide +kernel
theorem dX5_costOf_11 : decode cX5_costOf 11 = .ok (.iload_n 1, 1) := by decide +kernel
theorem dX5_costOf_12 : decode cX5_costOf 12 = .ok (.iaload, 1) := by decide +kernel
theorem dX5_costOf_13 : decode cX5_costOf 13 = .ok (.lookupswitch 37 #[(2, 27), (3, 31)], 27) := by decide +kernel
theorem dX5_costOf_40 : decode cX5_costOf 40 = .ok (.iconst 3, 1) := by decide +kernel
theorem dX5_costOf_41 : decode cX5_costOf 41 = .ok (.iload_n 2, 1) := by decide +kernel
theorem dX5_costOf_42 : decode cX5_costOf 42 = .ok (.imul, 1) := by decide +kernel
theorem dX5_costOf_43 : decode cX5_costOf 43 = .ok (.ireturn, 1) := by decide +kernel
theorem dX5_costOf_44 : decode cX5_costOf 44 = .ok (.iconst 3, 1) := by decide +kernel
theorem dX5_costOf_45 : decode cX5_costOf 45 = .ok (.iload_n 2, 1) := by decide +kernel
theorem dX5_costOf_46 : decode cX5_costOf 46 = .ok (.imul, 1) := by decide +kernel
theorem dX5_costOf_47 : decode cX5_costOf 47 = .ok (.iconst 1, 1) := by decide +kernel
theorem dX5_costOf_48 : decode cX5_costOf 48 = .ok (.iadd, 1) := by decide +kernel
theorem dX5_costOf_49 : decode cX5_costOf 49 = .ok (.ireturn, 1) := by decide +kernel
theorem dX5_costOf_50 : decode cX5_costOf 50 = .ok (.iload_n 2, 1) := by decide +kernel
theorem dX5_costOf_51 : decode cX5_costOf 51 = .ok (.ireturn, 1) := by decide +kernel
theorem dX5_thingsOf_0 : decode cX5_thingsOf 0 = .ok (.iconst 0, 1) := by decide +kernel
theorem dX5_thingsOf_1 : decode cX5_thingsOf 1 = .ok (.istore_n 2, 1) := by decide +kernel
theorem dX5_thingsOf_2 : decode cX5_thingsOf 2 = .ok (.iconst 0, 1) := by decide +kernel
theorem dX5_thingsOf_3 : decode cX5_thingsOf 3 = .ok (.istore_n 3, 1) := by decide +kernel
theorem dX5_thingsOf_4 : decode cX5_thingsOf 4 = .ok (.iload_n 3, 1) := by decide +kernel
theorem dX5_thingsOf_5 : decode cX5_thingsOf 5 = .ok (.aload_n 0, 1) := by decide +kernel
theorem dX5_thingsOf_6 : decode cX5_thingsOf 6 = .ok (.getfield 52, 3) := by decide +kernel
theorem dX5_thingsOf_9 : decode cX5_thingsOf 9 = .ok (.if_icmp .ge 29, 3) := by decide +kernel
theorem dX5_thingsOf_12 : decode cX5_thingsOf 12 = .ok (.iload_n 2, 1) := by decide +kernel
theorem dX5_thingsOf_13 : decode cX5_thingsOf 13 = .ok (.aload_n 0, 1) := by decide +kernel
theorem dX5_thingsOf_14 : decode cX5_thingsOf 14 = .ok (.getfield 27, 3) := by decide +kernel
theorem dX5_thingsOf_17 : decode cX5_thingsOf 17 = .ok (.iload_n 3, 1) := by decide +kernel
theorem dX5_thingsOf_18 : decode cX5_thingsOf 18 = .ok (.iaload, 1) := by decide +kernel
theorem dX5_thingsOf_19 : decode cX5_thingsOf 19 = .ok (.iload_n 1, 1) := by decide +kernel
theorem dX5_thingsOf_20 : decode cX5_thingsOf 20 = .ok (.if_icmp .ne 9, 3) := by decide +kernel
theorem dX5_thingsOf_23 : decode cX5_thingsOf 23 = .ok (.iconst 1, 1) := by decide +kernel
theorem dX5_thingsOf_24 : decode cX5_thingsOf 24 = .ok (.iload_n 3, 1) := by decide +kernel
theorem dX5_thingsOf_25 : decode cX5_thingsOf 25 = .ok (.ishl, 1) := by decide +kernel
theorem dX5_thingsOf_26 : decode cX5_thingsOf 26 = .ok (.goto 4, 3) := by decide +kernel
theorem dX5_thingsOf_29 : decode cX5_thingsOf 29 = .ok (.iconst 0, 1) := by decide +kernel
theorem dX5_thingsOf_30 : decode cX5_thingsOf 30 = .ok (.ior, 1) := by decide +kernel
theorem dX5_thingsOf_31 : decode cX5_thingsOf 31 = .ok (.istore_n 2, 1) := by decide +kernel
theorem dX5_thingsOf_32 : decode cX5_thingsOf 32 = .ok (.iinc 3 1, 3) := by decide +kernel
theorem dX5_thingsOf_35 : decode cX5_thingsOf 35 = .ok (.goto (-31), 3) := by decide +kernel
theorem dX5_thingsOf_38 : decode cX5_thingsOf 38 = .ok (.iload_n 2, 1) := by decide +kernel
theorem dX5_thingsOf_39 : decode cX5_thingsOf 39 = .ok (.ireturn, 1) := by decide +kernel
theorem dX5_fillOfSet_0 : decode cX5_fillOfSet 0 = .ok (.iconst 0, 1) := by decide +kernel
theorem dX5_fillOfSet_1 : decode cX5_fillOfSet 1 = .ok (.istore_n 2, 1) := by decide +kernel
theorem dX5_fillOfSet_2 : decode cX5_fillOfSet 2 = .ok (.iconst 0, 1) := by decide +kernel
theorem dX5_fillOfSet_3 : decode cX5_fillOfSet 3 = .ok (.istore_n 3, 1) := by decide +kernel
theorem dX5_fillOfSet_4 : decode cX5_fillOfSet 4 = .ok (.iload_n 3, 1) := by decide +kernel
theorem dX5_fillOfSet_5 : decode cX5_fillOfSet 5 = .ok (.aload_n 0, 1) := by decide +kernel
theorem dX5_fillOfSet_6 : decode cX5_fillOfSet 6 = .ok (.getfield 52, 3) := by decide +kernel
theorem dX5_fillOfSet_9 : decode cX5_fillOfSet 9 = .ok (.if_icmp .ge 29, 3) := by decide +kernel
theorem dX5_fillOfSet_12 : decode cX5_fillOfSet 12 = .ok (.iload_n 2, 1) := by decide +kernel
theorem dX5_fillOfSet_13 : decode cX5_fillOfSet 13 = .ok (.iload_n 1, 1) := by decide +kernel
theorem dX5_fillOfSet_14 : decode cX5_fillOfSet 14 = .ok (.iload_n 3, 1) := by decide +kernel
theorem dX5_fillOfSet_15 : decode cX5_fillOfSet 15 = .ok (.ishr, 1) := by decide +kernel
theorem dX5_fillOfSet_16 : decode cX5_fillOfSet 16 = .ok (.iconst 1, 1) := by decide +kernel
theorem dX5_fillOfSet_17 : decode cX5_fillOfSet 17 = .ok (.iand, 1) := by decide +kernel
theorem dX5_fillOfSet_18 : decode cX5_fillOfSet 18 = .ok (.ifCond .eq 11, 3) := by decide +kernel
theorem dX5_fillOfSet_21 : decode cX5_fillOfSet 21 = .ok (.aload_n 0, 1) := by decide +kernel
theorem dX5_fillOfSet_22 : decode cX5_fillOfSet 22 = .ok (.iload_n 3, 1) := by decide +kernel
theorem dX5_fillOfSet_23 : decode cX5_fillOfSet 23 = .ok (.invokevirtual 103, 3) := by decide +kernel
theorem dX5_fillOfSet_26 : decode cX5_fillOfSet 26 = .ok (.goto 4, 3) := by decide +kernel
theorem dX5_fillOfSet_29 : decode cX5_fillOfSet 29 = .ok (.iconst 0, 1) := by decide +kernel
theorem dX5_fillOfSet_30 : decode cX5_fillOfSet 30 = .ok (.iadd, 1) := by decide +kernel
theorem dX5_fillOfSet_31 : decode cX5_fillOfSet 31 = .ok (.istore_n 2, 1) := by decide +kernel
theorem dX5_fillOfSet_32 : decode cX5_fillOfSet 32 = .ok (.iinc 3 1, 3) := by decide +kernel
theorem dX5_fillOfSet_35 : decode cX5_fillOfSet 35 = .ok (.goto (-31), 3) := by decide +kernel
theorem dX5_fillOfSet_38 : decode cX5_fillOfSet 38 = .ok (.iload_n 2, 1) := by decide +kernel
theorem dX5_fillOfSet_39 : decode cX5_fillOfSet 39 = .ok (.ireturn, 1) := by decide +kernel
theorem dX5_costOfSet_0 : decode cX5_costOfSet 0 = .ok (.iconst 0, 1) := by decide +kernel
theorem dX5_costOfSet_1 : decode cX5_costOfSet 1 = .ok (.istore_n 2, 1) := by decide +kernel
theorem dX5_costOfSet_2 : decode cX5_costOfSet 2 = .ok (.iconst 0, 1) := by decide +kernel
theorem dX5_costOfSet_3 : decode cX5_costOfSet 3 = .ok (.istore_n 3, 1) := by decide +kernel
theorem dX5_costOfSet_4 : decode cX5_costOfSet 4 = .ok (.iload_n 3, 1) := by decide +kernel
theorem dX5_costOfSet_5 : decode cX5_costOfSet 5 = .ok (.aload_n 0, 1) := by decide +kernel
theorem dX5_costOfSet_6 : decode cX5_costOfSet 6 = .ok (.getfield 52, 3) := by decide +kernel
theorem dX5_costOfSet_9 : decode cX5_costOfSet 9 = .ok (.if_icmp .ge 29, 3) := by decide +kernel
theorem dX5_costOfSet_12 : decode cX5_costOfSet 12 = .ok (.iload_n 2, 1) := by decide +kernel
theorem dX5_costOfSet_13 : decode cX5_costOfSet 13 = .ok (.iload_n 1, 1) := by decide +kernel
theorem dX5_costOfSet_14 : decode cX5_costOfSet 14 = .ok (.iload_n 3, 1) := by decide +kernel
theorem dX5_costOfSet_15 : decode cX5_costOfSet 15 = .ok (.ishr, 1) := by decide +kernel
theorem dX5_costOfSet_16 : decode cX5_costOfSet 16 = .ok (.iconst 1, 1) := by decide +kernel
theorem dX5_costOfSet_17 : decode cX5_costOfSet 17 = .ok (.iand, 1) := by decide +kernel
theorem dX5_costOfSet_18 : decode cX5_costOfSet 18 = .ok (.ifCond .eq 11, 3) := by decide +kernel
theorem dX5_costOfSet_21 : decode cX5_costOfSet 21 = .ok (.aload_n 0, 1) := by decide +kernel
theorem dX5_costOfSet_22 : decode cX5_costOfSet 22 = .ok (.iload_n 3, 1) := by decide +kernel
theorem dX5_costOfSet_23 : decode cX5_costOfSet 23 = .ok (.invokevirtual 107, 3) := by decide +kernel
theorem dX5_costOfSet_26 : decode cX5_costOfSet 26 = .ok (.goto 4, 3) := by decide +kernel
theorem dX5_costOfSet_29 : decode cX5_costOfSet 29 = .ok (.iconst 0, 1) := by decide +kernel
theorem dX5_costOfSet_30 : decode cX5_costOfSet 30 = .ok (.iadd, 1) := by decide +kernel
theorem dX5_costOfSet_31 : decode cX5_costOfSet 31 = .ok (.istore_n 2, 1) := by decide +kernel
theorem dX5_costOfSet_32 : decode cX5_costOfSet 32 = .ok (.iinc 3 1, 3) := by decide +kernel
theorem dX5_costOfSet_35 : decode cX5_costOfSet 35 = .ok (.goto (-31), 3) := by decide +kernel
theorem dX5_costOfSet_38 : decode cX5_costOfSet 38 = .ok (.iload_n 2, 1) := by decide +kernel
theorem dX5_costOfSet_39 : decode cX5_costOfSet 39 = .ok (.ireturn, 1) := by decide +kernel
theorem dX5_filledOf_0 : decode cX5_filledOf 0 = .ok (.iconst 0, 1) := by decide +kernel
theorem dX5_filledOf_1 : decode cX5_filledOf 1 = .ok (.istore_n 2, 1) := by decide +kernel
theorem dX5_filledOf_2 : decode cX5_filledOf 2 = .ok (.iconst 0, 1) := by decide +kernel
theorem dX5_filledOf_3 : decode cX5_filledOf 3 = .ok (.istore_n 3, 1) := by decide +kernel
theorem dX5_filledOf_4 : decode cX5_filledOf 4 = .ok (.iload_n 3, 1) := by decide +kernel
theorem dX5_filledOf_5 : decode cX5_filledOf 5 = .ok (.aload_n 0, 1) := by decide +kernel
theorem dX5_filledOf_6 : decode cX5_filledOf 6 = .ok (.getfield 52, 3) := by decide +kernel
theorem dX5_filledOf_9 : decode cX5_filledOf 9 = .ok (.if_icmp .ge 39, 3) := by decide +kernel
theorem dX5_filledOf_12 : decode cX5_filledOf 12 = .ok (.iload_n 2, 1) := by decide +kernel
theorem dX5_filledOf_13 : decode cX5_filledOf 13 = .ok (.aload_n 0, 1) := by decide +kernel
theorem dX5_filledOf_14 : decode cX5_filledOf 14 = .ok (.getfield 27, 3) := by decide +kernel
theorem dX5_filledOf_17 : decode cX5_filledOf 17 = .ok (.iload_n 3, 1) := by decide +kernel
theorem dX5_filledOf_18 : decode cX5_filledOf 18 = .ok (.iaload, 1) := by decide +kernel
theorem dX5_filledOf_19 : decode cX5_filledOf 19 = .ok (.iload_n 1, 1) := by decide +kernel
theorem dX5_filledOf_20 : decode cX5_filledOf 20 = .ok (.if_icmp .ne 19, 3) := by decide +kernel
theorem dX5_filledOf_23 : decode cX5_filledOf 23 = .ok (.aload_n 0, 1) := by decide +kernel
theorem dX5_filledOf_24 : decode cX5_filledOf 24 = .ok (.iload_n 3, 1) := by decide +kernel
theorem dX5_filledOf_25 : decode cX5_filledOf 25 = .ok (.invokevirtual 100, 3) := by decide +kernel
theorem dX5_filledOf_28 : decode cX5_filledOf 28 = .ok (.ifCond .eq 11, 3) := by decide +kernel
theorem dX5_filledOf_31 : decode cX5_filledOf 31 = .ok (.aload_n 0, 1) := by decide +kernel
theorem dX5_filledOf_32 : decode cX5_filledOf 32 = .ok (.iload_n 3, 1) := by decide +kernel
theorem dX5_filledOf_33 : decode cX5_filledOf 33 = .ok (.invokevirtual 103, 3) := by decide +kernel
theorem dX5_filledOf_36 : decode cX5_filledOf 36 = .ok (.goto 4, 3) := by decide +kernel
theorem dX5_filledOf_39 : decode cX5_filledOf 39 = .ok (.iconst 0, 1) := by decide +kernel
theorem dX5_filledOf_40 : decode cX5_filledOf 40 = .ok (.iadd, 1) := by decide +kernel
theorem dX5_filledOf_41 : decode cX5_filledOf 41 = .ok (.istore_n 2, 1) := by decide +kernel
theorem dX5_filledOf_42 : decode cX5_filledOf 42 = .ok (.iinc 3 1, 3) := by decide +kernel
theorem dX5_filledOf_45 : decode cX5_filledOf 45 = .ok (.goto (-41), 3) := by decide +kernel
theorem dX5_filledOf_48 : decode cX5_filledOf 48 = .ok (.iload_n 2, 1) := by decide +kernel
theorem dX5_filledOf_49 : decode cX5_filledOf 49 = .ok (.ireturn, 1) := by decide +kernel
theorem dX5_putIn_0 : decode cX5_putIn 0 = .ok (.aload_n 0, 1) := by decide +kernel
theorem dX5_putIn_1 : decode cX5_putIn 1 = .ok (.iload_n 1, 1) := by decide +kernel
theorem dX5_putIn_2 : decode cX5_putIn 2 = .ok (.invokevirtual 110, 3) := by decide +kernel
theorem dX5_putIn_5 : decode cX5_putIn 5 = .ok (.ifCond .ne 5, 3) := by decide +kernel
theorem dX5_putIn_8 : decode cX5_putIn 8 = .ok (.iconst (-1), 1) := by decide +kernel
theorem dX5_putIn_9 : decode cX5_putIn 9 = .ok (.ireturn, 1) := by decide +kernel
theorem dX5_putIn_10 : decode cX5_putIn 10 = .ok (.aload_n 0, 1) := by decide +kernel
theorem dX5_putIn_11 : decode cX5_putIn 11 = .ok (.getfield 27, 3) := by decide +kernel
theorem dX5_putIn_14 : decode cX5_putIn 14 = .ok (.iload_n 1, 1) := by decide +kernel
theorem dX5_putIn_15 : decode cX5_putIn 15 = .ok (.iaload, 1) := by decide +kernel
theorem dX5_putIn_16 : decode cX5_putIn 16 = .ok (.istore_n 2, 1) := by decide +kernel
theorem dX5_putIn_17 : decode cX5_putIn 17 = .ok (.aload_n 0, 1) := by decide +kernel
theorem dX5_putIn_18 : decode cX5_putIn 18 = .ok (.iload_n 1, 1) := by decide +kernel
theorem dX5_putIn_19 : decode cX5_putIn 19 = .ok (.invokevirtual 113, 3) := by decide +kernel
theorem dX5_putIn_22 : decode cX5_putIn 22 = .ok (.ifCond .ne 11, 3) := by decide +kernel
theorem dX5_putIn_25 : decode cX5_putIn 25 = .ok (.aload_n 0, 1) := by decide +kernel
theorem dX5_putIn_26 : decode cX5_putIn 26 = .ok (.iload_n 2, 1) := by decide +kernel
theorem dX5_putIn_27 : decode cX5_putIn 27 = .ok (.invokevirtual 116, 3) := by decide +kernel
theorem dX5_putIn_30 : decode cX5_putIn 30 = .ok (.ifCond .eq 6, 3) := by decide +kernel
theorem dX5_putIn_33 : decode cX5_putIn 33 = .ok (.bipush (-2), 2) := by decide +kernel
theorem dX5_putIn_35 : decode cX5_putIn 35 = .ok (.ireturn, 1) := by decide +kernel
theorem dX5_putIn_36 : decode cX5_putIn 36 = .ok (.aload_n 0, 1) := by decide +kernel
theorem dX5_putIn_37 : decode cX5_putIn 37 = .ok (.getfield 15, 3) := by decide +kernel
theorem dX5_putIn_40 : decode cX5_putIn 40 = .ok (.iload_n 2, 1) := by decide +kernel
theorem dX5_putIn_41 : decode cX5_putIn 41 = .ok (.iaload, 1) := by decide +kernel
theorem dX5_putIn_42 : decode cX5_putIn 42 = .ok (.aload_n 0, 1) := by decide +kernel
theorem dX5_putIn_43 : decode cX5_putIn 43 = .ok (.iload_n 2, 1) := by decide +kernel
theorem dX5_putIn_44 : decode cX5_putIn 44 = .ok (.invokevirtual 119, 3) := by decide +kernel
theorem dX5_putIn_47 : decode cX5_putIn 47 = .ok (.isub, 1) := by decide +kernel
theorem dX5_putIn_48 : decode cX5_putIn 48 = .ok (.aload_n 0, 1) := by decide +kernel
theorem dX5_putIn_49 : decode cX5_putIn 49 = .ok (.iload_n 1, 1) := by decide +kernel
theorem dX5_putIn_50 : decode cX5_putIn 50 = .ok (.invokevirtual 103, 3) := by decide +kernel
theorem dX5_putIn_53 : decode cX5_putIn 53 = .ok (.isub, 1) := by decide +kernel
theorem dX5_putIn_54 : decode cX5_putIn 54 = .ok (.istore_n 3, 1) := by decide +kernel
theorem dX5_putIn_55 : decode cX5_putIn 55 = .ok (.iload_n 3, 1) := by decide +kernel
theorem dX5_putIn_56 : decode cX5_putIn 56 = .ok (.ifCond .ge 6, 3) := by decide +kernel
theorem dX5_putIn_59 : decode cX5_putIn 59 = .ok (.bipush (-3), 2) := by decide +kernel
theorem dX5_putIn_61 : decode cX5_putIn 61 = .ok (.ireturn, 1) := by decide +kernel
theorem dX5_putIn_62 : decode cX5_putIn 62 = .ok (.aload_n 0, 1) := by decide +kernel
theorem dX5_putIn_63 : decode cX5_putIn 63 = .ok (.dup, 1) := by decide +kernel
theorem dX5_putIn_64 : decode cX5_putIn 64 = .ok (.getfield 58, 3) := by decide +kernel
theorem dX5_putIn_67 : decode cX5_putIn 67 = .ok (.iconst 1, 1) := by decide +kernel
theorem dX5_putIn_68 : decode cX5_putIn 68 = .ok (.iload_n 1, 1) := by decide +kernel
theorem dX5_putIn_69 : decode cX5_putIn 69 = .ok (.ishl, 1) := by decide +kernel
theorem dX5_putIn_70 : decode cX5_putIn 70 = .ok (.ior, 1) := by decide +kernel
theorem dX5_putIn_71 : decode cX5_putIn 71 = .ok (.putfield 58, 3) := by decide +kernel
theorem dX5_putIn_74 : decode cX5_putIn 74 = .ok (.iload_n 3, 1) := by decide +kernel
theorem dX5_putIn_75 : decode cX5_putIn 75 = .ok (.ireturn, 1) := by decide +kernel
theorem dX5_takeOut_0 : decode cX5_takeOut 0 = .ok (.aload_n 0, 1) := by decide +kernel
theorem dX5_takeOut_1 : decode cX5_takeOut 1 = .ok (.iload_n 1, 1) := by decide +kernel
theorem dX5_takeOut_2 : decode cX5_takeOut 2 = .ok (.invokevirtual 110, 3) := by decide +kernel
theorem dX5_takeOut_5 : decode cX5_takeOut 5 = .ok (.ifCond .ne 5, 3) := by decide +kernel
theorem dX5_takeOut_8 : decode cX5_takeOut 8 = .ok (.iconst (-1), 1) := by decide +kernel
theorem dX5_takeOut_9 : decode cX5_takeOut 9 = .ok (.ireturn, 1) := by decide +kernel
theorem dX5_takeOut_10 : decode cX5_takeOut 10 = .ok (.aload_n 0, 1) := by decide +kernel
theorem dX5_takeOut_11 : decode cX5_takeOut 11 = .ok (.getfield 27, 3) := by decide +kernel
theorem dX5_takeOut_14 : decode cX5_takeOut 14 = .ok (.iload_n 1, 1) := by decide +kernel
theorem dX5_takeOut_15 : decode cX5_takeOut 15 = .ok (.iaload, 1) := by decide +kernel
theorem dX5_takeOut_16 : decode cX5_takeOut 16 = .ok (.istore_n 2, 1) := by decide +kernel
theorem dX5_takeOut_17 : decode cX5_takeOut 17 = .ok (.aload_n 0, 1) := by decide +kernel
theorem dX5_takeOut_18 : decode cX5_takeOut 18 = .ok (.iload_n 1, 1) := by decide +kernel
theorem dX5_takeOut_19 : decode cX5_takeOut 19 = .ok (.invokevirtual 100, 3) := by decide +kernel
theorem dX5_takeOut_22 : decode cX5_takeOut 22 = .ok (.ifCond .eq 11, 3) := by decide +kernel
theorem dX5_takeOut_25 : decode cX5_takeOut 25 = .ok (.aload_n 0, 1) := by decide +kernel
theorem dX5_takeOut_26 : decode cX5_takeOut 26 = .ok (.iload_n 2, 1) := by decide +kernel
theorem dX5_takeOut_27 : decode cX5_takeOut 27 = .ok (.invokevirtual 116, 3) := by decide +kernel
theorem dX5_takeOut_30 : decode cX5_takeOut 30 = .ok (.ifCond .eq 6, 3) := by decide +kernel
theorem dX5_takeOut_33 : decode cX5_takeOut 33 = .ok (.bipush (-2), 2) := by decide +kernel
theorem dX5_takeOut_35 : decode cX5_takeOut 35 = .ok (.ireturn, 1) := by decide +kernel
theorem dX5_takeOut_36 : decode cX5_takeOut 36 = .ok (.aload_n 0, 1) := by decide +kernel
theorem dX5_takeOut_37 : decode cX5_takeOut 37 = .ok (.dup, 1) := by decide +kernel
theorem dX5_takeOut_38 : decode cX5_takeOut 38 = .ok (.getfield 58, 3) := by decide +kernel
theorem dX5_takeOut_41 : decode cX5_takeOut 41 = .ok (.iconst 1, 1) := by decide +kernel
theorem dX5_takeOut_42 : decode cX5_takeOut 42 = .ok (.iload_n 1, 1) := by decide +kernel
theorem dX5_takeOut_43 : decode cX5_takeOut 43 = .ok (.ishl, 1) := by decide +kernel
theorem dX5_takeOut_44 : decode cX5_takeOut 44 = .ok (.iconst (-1), 1) := by decide +kernel
theorem dX5_takeOut_45 : decode cX5_takeOut 45 = .ok (.ixor, 1) := by decide +kernel
theorem dX5_takeOut_46 : decode cX5_takeOut 46 = .ok (.iand, 1) := by decide +kernel
theorem dX5_takeOut_47 : decode cX5_takeOut 47 = .ok (.putfield 58, 3) := by decide +kernel
theorem dX5_takeOut_50 : decode cX5_takeOut 50 = .ok (.iconst 0, 1) := by decide +kernel
theorem dX5_takeOut_51 : decode cX5_takeOut 51 = .ok (.aload_n 0, 1) := by decide +kernel
theorem dX5_takeOut_52 : decode cX5_takeOut 52 = .ok (.getfield 15, 3) := by decide +kernel
theorem dX5_takeOut_55 : decode cX5_takeOut 55 = .ok (.iload_n 2, 1) := by decide +kernel
theorem dX5_takeOut_56 : decode cX5_takeOut 56 = .ok (.iaload, 1) := by decide +kernel
theorem dX5_takeOut_57 : decode cX5_takeOut 57 = .ok (.aload_n 0, 1) := by decide +kernel
theorem dX5_takeOut_58 : decode cX5_takeOut 58 = .ok (.iload_n 2, 1) := by decide +kernel
theorem dX5_takeOut_59 : decode cX5_takeOut 59 = .ok (.invokevirtual 119, 3) := by decide +kernel
theorem dX5_takeOut_62 : decode cX5_takeOut 62 = .ok (.isub, 1) := by decide +kernel
theorem dX5_takeOut_63 : decode cX5_takeOut 63 = .ok (.invokestatic 122, 3) := by decide +kernel
theorem dX5_takeOut_66 : decode cX5_takeOut 66 = .ok (.ireturn, 1) := by decide +kernel
theorem dX5_mayChangeHomes_0 : decode cX5_mayChangeHomes 0 = .ok (.aload_n 0, 1) := by decide +kernel
theorem dX5_mayChangeHomes_1 : decode cX5_mayChangeHomes 1 = .ok (.iload_n 1, 1) := by decide +kernel
theorem dX5_mayChangeHomes_2 : decode cX5_mayChangeHomes 2 = .ok (.invokevirtual 97, 3) := by decide +kernel
theorem dX5_mayChangeHomes_5 : decode cX5_mayChangeHomes 5 = .ok (.ifCond .ne 30, 3) := by decide +kernel
theorem dX5_mayChangeHomes_8 : decode cX5_mayChangeHomes 8 = .ok (.aload_n 0, 1) := by decide +kernel
theorem dX5_mayChangeHomes_9 : decode cX5_mayChangeHomes 9 = .ok (.iload_n 2, 1) := by decide +kernel
theorem dX5_mayChangeHomes_10 : decode cX5_mayChangeHomes 10 = .ok (.invokevirtual 97, 3) := by decide +kernel
theorem dX5_mayChangeHomes_13 : decode cX5_mayChangeHomes 13 = .ok (.ifCond .ne 22, 3) := by decide +kernel
theorem dX5_mayChangeHomes_16 : decode cX5_mayChangeHomes 16 = .ok (.aload_n 0, 1) := by decide +kernel
theorem dX5_mayChangeHomes_17 : decode cX5_mayChangeHomes 17 = .ok (.getfield 27, 3) := by decide +kernel
theorem dX5_mayChangeHomes_20 : decode cX5_mayChangeHomes 20 = .ok (.iload_n 1, 1) := by decide +kernel
theorem dX5_mayChangeHomes_21 : decode cX5_mayChangeHomes 21 = .ok (.iaload, 1) := by decide +kernel
theorem dX5_mayChangeHomes_22 : decode cX5_mayChangeHomes 22 = .ok (.aload_n 0, 1) := by decide +kernel
theorem dX5_mayChangeHomes_23 : decode cX5_mayChangeHomes 23 = .ok (.getfield 27, 3) := by decide +kernel
theorem dX5_mayChangeHomes_26 : decode cX5_mayChangeHomes 26 = .ok (.iload_n 2, 1) := by decide +kernel
theorem dX5_mayChangeHomes_27 : decode cX5_mayChangeHomes 27 = .ok (.iaload, 1) := by decide +kernel
theorem dX5_mayChangeHomes_28 : decode cX5_mayChangeHomes 28 = .ok (.if_icmp .eq 7, 3) := by decide +kernel
theorem dX5_mayChangeHomes_31 : decode cX5_mayChangeHomes 31 = .ok (.iconst 1, 1) := by decide +kernel
theorem dX5_mayChangeHomes_32 : decode cX5_mayChangeHomes 32 = .ok (.goto 4, 3) := by decide +kernel
theorem dX5_mayChangeHomes_35 : decode cX5_mayChangeHomes 35 = .ok (.iconst 0, 1) := by decide +kernel
theorem dX5_mayChangeHomes_36 : decode cX5_mayChangeHomes 36 = .ok (.ireturn, 1) := by decide +kernel
theorem dX5_changeHomes_0 : decode cX5_changeHomes 0 = .ok (.aload_n 0, 1) := by decide +kernel
theorem dX5_changeHomes_1 : decode cX5_changeHomes 1 = .ok (.getfield 27, 3) := by decide +kernel
theorem dX5_changeHomes_4 : decode cX5_changeHomes 4 = .ok (.iload_n 1, 1) := by decide +kernel
theorem dX5_changeHomes_5 : decode cX5_changeHomes 5 = .ok (.iaload, 1) := by decide +kernel
theorem dX5_changeHomes_6 : decode cX5_changeHomes 6 = .ok (.istore_n 3, 1) := by decide +kernel
theorem dX5_changeHomes_7 : decode cX5_changeHomes 7 = .ok (.aload_n 0, 1) := by decide +kernel
theorem dX5_changeHomes_8 : decode cX5_changeHomes 8 = .ok (.getfield 27, 3) := by decide +kernel
theorem dX5_changeHomes_11 : decode cX5_changeHomes 11 = .ok (.iload_n 1, 1) := by decide +kernel
theorem dX5_changeHomes_12 : decode cX5_changeHomes 12 = .ok (.aload_n 0, 1) := by decide +kernel
theorem dX5_changeHomes_13 : decode cX5_changeHomes 13 = .ok (.getfield 27, 3) := by decide +kernel
theorem dX5_changeHomes_16 : decode cX5_changeHomes 16 = .ok (.iload_n 2, 1) := by decide +kernel
theorem dX5_changeHomes_17 : decode cX5_changeHomes 17 = .ok (.iaload, 1) := by decide +kernel
theorem dX5_changeHomes_18 : decode cX5_changeHomes 18 = .ok (.iastore, 1) := by decide +kernel
theorem dX5_changeHomes_19 : decode cX5_changeHomes 19 = .ok (.aload_n 0, 1) := by decide +kernel
theorem dX5_changeHomes_20 : decode cX5_changeHomes 20 = .ok (.getfield 27, 3) := by decide +kernel
theorem dX5_changeHomes_23 : decode cX5_changeHomes 23 = .ok (.iload_n 2, 1) := by decide +kernel
theorem dX5_changeHomes_24 : decode cX5_changeHomes 24 = .ok (.iload_n 3, 1) := by decide +kernel
theorem dX5_changeHomes_25 : decode cX5_changeHomes 25 = .ok (.iastore, 1) := by decide +kernel
theorem dX5_changeHomes_26 : decode cX5_changeHomes 26 = .ok (.return_, 1) := by decide +kernel
theorem dX5_riseToday_0 : decode cX5_riseToday 0 = .ok (.aload_n 0, 1) := by decide +kernel
theorem dX5_riseToday_1 : decode cX5_riseToday 1 = .ok (.getfield 36, 3) := by decide +kernel
theorem dX5_riseToday_4 : decode cX5_riseToday 4 = .ok (.aload_n 0, 1) := by decide +kernel
theorem dX5_riseToday_5 : decode cX5_riseToday 5 = .ok (.getfield 67, 3) := by decide +kernel
theorem dX5_riseToday_8 : decode cX5_riseToday 8 = .ok (.bipush 7, 2) := by decide +kernel
theorem dX5_riseToday_10 : decode cX5_riseToday 10 = .ok (.invokestatic 125, 3) := by decide +kernel
theorem dX5_riseToday_13 : decode cX5_riseToday 13 = .ok (.iaload, 1) := by decide +kernel
theorem dX5_riseToday_14 : decode cX5_riseToday 14 = .ok (.ireturn, 1) := by decide +kernel
theorem dX5_passDays_0 : decode cX5_passDays 0 = .ok (.iconst 0, 1) := by decide +kernel
theorem dX5_passDays_1 : decode cX5_passDays 1 = .ok (.istore_n 2, 1) := by decide +kernel
theorem dX5_passDays_2 : decode cX5_passDays 2 = .ok (.iload_n 2, 1) := by decide +kernel
theorem dX5_passDays_3 : decode cX5_passDays 3 = .ok (.iload_n 1, 1) := by decide +kernel
theorem dX5_passDays_4 : decode cX5_passDays 4 = .ok (.if_icmp .ge 21, 3) := by decide +kernel
theorem dX5_passDays_7 : decode cX5_passDays 7 = .ok (.aload_n 0, 1) := by decide +kernel
theorem dX5_passDays_8 : decode cX5_passDays 8 = .ok (.aload_n 0, 1) := by decide +kernel
theorem dX5_passDays_9 : decode cX5_passDays 9 = .ok (.invokevirtual 128, 3) := by decide +kernel
theorem dX5_passDays_12 : decode cX5_passDays 12 = .ok (.aload_n 0, 1) := by decide +kernel
theorem dX5_passDays_13 : decode cX5_passDays 13 = .ok (.getfield 45, 3) := by decide +kernel
theorem dX5_passDays_16 : decode cX5_passDays 16 = .ok (.invokevirtual 132, 3) := by decide +kernel
theorem dX5_passDays_19 : decode cX5_passDays 19 = .ok (.iinc 2 1, 3) := by decide +kernel
theorem dX5_passDays_22 : decode cX5_passDays 22 = .ok (.goto (-20), 3) := by decide +kernel
theorem dX5_passDays_25 : decode cX5_passDays 25 = .ok (.return_, 1) := by decide +kernel
theorem dX5_passDay_0 : decode cX5_passDay 0 = .ok (.aload_n 0, 1) := by decide +kernel
theorem dX5_passDay_1 : decode cX5_passDay 1 = .ok (.aload_n 0, 1) := by decide +kernel
theorem dX5_passDay_2 : decode cX5_passDay 2 = .ok (.getfield 64, 3) := by decide +kernel
theorem dX5_passDay_5 : decode cX5_passDay 5 = .ok (.iload_n 1, 1) := by decide +kernel
theorem dX5_passDay_6 : decode cX5_passDay 6 = .ok (.iadd, 1) := by decide +kernel
theorem dX5_passDay_7 : decode cX5_passDay 7 = .ok (.iconst 4, 1) := by decide +kernel
theorem dX5_passDay_8 : decode cX5_passDay 8 = .ok (.isub, 1) := by decide +kernel
theorem dX5_passDay_9 : decode cX5_passDay 9 = .ok (.bipush 20, 2) := by decide +kernel
theorem dX5_passDay_11 : decode cX5_passDay 11 = .ok (.invokestatic 136, 3) := by decide +kernel
theorem dX5_passDay_14 : decode cX5_passDay 14 = .ok (.putfield 64, 3) := by decide +kernel
theorem dX5_passDay_17 : decode cX5_passDay 17 = .ok (.iconst 0, 1) := by decide +kernel
theorem dX5_passDay_18 : decode cX5_passDay 18 = .ok (.istore_n 3, 1) := by decide +kernel
theorem dX5_passDay_19 : decode cX5_passDay 19 = .ok (.iload_n 3, 1) := by decide +kernel
theorem dX5_passDay_20 : decode cX5_passDay 20 = .ok (.aload_n 0, 1) := by decide +kernel
theorem dX5_passDay_21 : decode cX5_passDay 21 = .ok (.getfield 49, 3) := by decide +kernel
theorem dX5_passDay_24 : decode cX5_passDay 24 = .ok (.if_icmp .ge 15, 3) := by decide +kernel
theorem dX5_passDay_27 : decode cX5_passDay 27 = .ok (.aload_n 0, 1) := by decide +kernel
theorem dX5_passDay_28 : decode cX5_passDay 28 = .ok (.iload_n 3, 1) := by decide +kernel
theorem dX5_passDay_29 : decode cX5_passDay 29 = .ok (.iload_n 2, 1) := by decide +kernel
theorem dX5_passDay_30 : decode cX5_passDay 30 = .ok (.invokevirtual 139, 3) := by decide +kernel
theorem dX5_passDay_33 : decode cX5_passDay 33 = .ok (.iinc 3 1, 3) := by decide +kernel
theorem dX5_passDay_36 : decode cX5_passDay 36 = .ok (.goto (-17), 3) := by decide +kernel
theorem dX5_passDay_39 : decode cX5_passDay 39 = .ok (.aload_n 0, 1) := by decide +kernel
theorem dX5_passDay_40 : decode cX5_passDay 40 = .ok (.dup, 1) := by decide +kernel
theorem dX5_passDay_41 : decode cX5_passDay 41 = .ok (.getfield 67, 3) := by decide +kernel
theorem dX5_passDay_44 : decode cX5_passDay 44 = .ok (.iconst 1, 1) := by decide +kernel
theorem dX5_passDay_45 : decode cX5_passDay 45 = .ok (.iadd, 1) := by decide +kernel
theorem dX5_passDay_46 : decode cX5_passDay 46 = .ok (.putfield 67, 3) := by decide +kernel
theorem dX5_passDay_49 : decode cX5_passDay 49 = .ok (.return_, 1) := by decide +kernel
theorem dX5_passHouse_0 : decode cX5_passHouse 0 = .ok (.aload_n 0, 1) := by decide +kernel
theorem dX5_passHouse_1 : decode cX5_passHouse 1 = .ok (.getfield 64, 3) := by decide +kernel
theorem dX5_passHouse_4 : decode cX5_passHouse 4 = .ok (.aload_n 0, 1) := by decide +kernel
theorem dX5_passHouse_5 : decode cX5_passHouse 5 = .ok (.getfield 9, 3) := by decide +kernel
theorem dX5_passHouse_8 : decode cX5_passHouse 8 = .ok (.iload_n 1, 1) := by decide +kernel
theorem dX5_passHouse_9 : decode cX5_passHouse 9 = .ok (.iaload, 1) := by decide +kernel
theorem dX5_passHouse_10 : decode cX5_passHouse 10 = .ok (.if_icmp .gt 18, 3) := by decide +kernel
theorem dX5_passHouse_13 : decode cX5_passHouse 13 = .ok (.aload_n 0, 1) := by decide +kernel
theorem dX5_passHouse_14 : decode cX5_passHouse 14 = .ok (.dup, 1) := by decide +kernel
theorem dX5_passHouse_15 : decode cX5_passHouse 15 = .ok (.getfield 55, 3) := by decide +kernel
theorem dX5_passHouse_18 : decode cX5_passHouse 18 = .ok (.iconst 1, 1) := by decide +kernel
theorem dX5_passHouse_19 : decode cX5_passHouse 19 = .ok (.iload_n 1, 1) := by decide +kernel
theorem dX5_passHouse_20 : decode cX5_passHouse 20 = .ok (.ishl, 1) := by decide +kernel
theorem dX5_passHouse_21 : decode cX5_passHouse 21 = .ok (.iconst (-1), 1) := by decide +kernel
theorem dX5_passHouse_22 : decode cX5_passHouse 22 = .ok (.ixor, 1) := by decide +kernel
theorem dX5_passHouse_23 : decode cX5_passHouse 23 = .ok (.iand, 1) := by decide +kernel
theorem dX5_passHouse_24 : decode cX5_passHouse 24 = .ok (.putfield 55, 3) := by decide +kernel
theorem dX5_passHouse_27 : decode cX5_passHouse 27 = .ok (.return_, 1) := by decide +kernel
theorem dX5_passHouse_28 : decode cX5_passHouse 28 = .ok (.aload_n 0, 1) := by decide +kernel
theorem dX5_passHouse_29 : decode cX5_passHouse 29 = .ok (.iload_n 1, 1) := by decide +kernel
theorem dX5_passHouse_30 : decode cX5_passHouse 30 = .ok (.invokevirtual 116, 3) := by decide +kernel
theorem dX5_passHouse_33 : decode cX5_passHouse 33 = .ok (.ifCond .ne 20, 3) := by decide +kernel
theorem dX5_passHouse_36 : decode cX5_passHouse 36 = .ok (.aload_n 0, 1) := by decide +kernel
theorem dX5_passHouse_37 : decode cX5_passHouse 37 = .ok (.iload_n 1, 1) := by decide +kernel
theorem dX5_passHouse_38 : decode cX5_passHouse 38 = .ok (.invokevirtual 142, 3) := by decide +kernel
theorem dX5_passHouse_41 : decode cX5_passHouse 41 = .ok (.aload_n 0, 1) := by decide +kernel
theorem dX5_passHouse_42 : decode cX5_passHouse 42 = .ok (.dup, 1) := by decide +kernel
theorem dX5_passHouse_43 : decode cX5_passHouse 43 = .ok (.getfield 55, 3) := by decide +kernel
theorem dX5_passHouse_46 : decode cX5_passHouse 46 = .ok (.iconst 1, 1) := by decide +kernel
theorem dX5_passHouse_47 : decode cX5_passHouse 47 = .ok (.iload_n 1, 1) := by decide +kernel
theorem dX5_passHouse_48 : decode cX5_passHouse 48 = .ok (.ishl, 1) := by decide +kernel
theorem dX5_passHouse_49 : decode cX5_passHouse 49 = .ok (.ior, 1) := by decide +kernel
theorem dX5_passHouse_50 : decode cX5_passHouse 50 = .ok (.putfield 55, 3) := by decide +kernel
theorem dX5_passHouse_53 : decode cX5_passHouse 53 = .ok (.aload_n 0, 1) := by decide +kernel
theorem dX5_passHouse_54 : decode cX5_passHouse 54 = .ok (.getfield 15, 3) := by decide +kernel
theorem dX5_passHouse_57 : decode cX5_passHouse 57 = .ok (.iload_n 1, 1) := by decide +kernel
theorem dX5_passHouse_58 : decode cX5_passHouse 58 = .ok (.iconst 0, 1) := by decide +kernel
theorem dX5_passHouse_59 : decode cX5_passHouse 59 = .ok (.aload_n 0, 1) := by decide +kernel
theorem dX5_passHouse_60 : decode cX5_passHouse 60 = .ok (.getfield 15, 3) := by decide +kernel
theorem dX5_passHouse_63 : decode cX5_passHouse 63 = .ok (.iload_n 1, 1) := by decide +kernel
theorem dX5_passHouse_64 : decode cX5_passHouse 64 = .ok (.iaload, 1) := by decide +kernel
theorem dX5_passHouse_65 : decode cX5_passHouse 65 = .ok (.aload_n 0, 1) := by decide +kernel
theorem dX5_passHouse_66 : decode cX5_passHouse 66 = .ok (.getfield 18, 3) := by decide +kernel
theorem dX5_passHouse_69 : decode cX5_passHouse 69 = .ok (.iload_n 1, 1) := by decide +kernel
theorem dX5_passHouse_70 : decode cX5_passHouse 70 = .ok (.iaload, 1) := by decide +kernel
theorem dX5_passHouse_71 : decode cX5_passHouse 71 = .ok (.isub, 1) := by decide +kernel
theorem dX5_passHouse_72 : decode cX5_passHouse 72 = .ok (.invokestatic 122, 3) := by decide +kernel
theorem dX5_passHouse_75 : decode cX5_passHouse 75 = .ok (.iastore, 1) := by decide +kernel
theorem dX5_passHouse_76 : decode cX5_passHouse 76 = .ok (.aload_n 0, 1) := by decide +kernel
theorem dX5_passHouse_77 : decode cX5_passHouse 77 = .ok (.iload_n 1, 1) := by decide +kernel
theorem dX5_passHouse_78 : decode cX5_passHouse 78 = .ok (.invokevirtual 146, 3) := by decide +kernel
theorem dX5_passHouse_81 : decode cX5_passHouse 81 = .ok (.aload_n 0, 1) := by decide +kernel
theorem dX5_passHouse_82 : decode cX5_passHouse 82 = .ok (.getfield 21, 3) := by decide +kernel
theorem dX5_passHouse_85 : decode cX5_passHouse 85 = .ok (.iload_n 1, 1) := by decide +kernel
theorem dX5_passHouse_86 : decode cX5_passHouse 86 = .ok (.aload_n 0, 1) := by decide +kernel
theorem dX5_passHouse_87 : decode cX5_passHouse 87 = .ok (.getfield 21, 3) := by decide +kernel
theorem dX5_passHouse_90 : decode cX5_passHouse 90 = .ok (.iload_n 1, 1) := by decide +kernel
theorem dX5_passHouse_91 : decode cX5_passHouse 91 = .ok (.iaload, 1) := by decide +kernel
theorem dX5_passHouse_92 : decode cX5_passHouse 92 = .ok (.iload_n 2, 1) := by decide +kernel
theorem dX5_passHouse_93 : decode cX5_passHouse 93 = .ok (.iadd, 1) := by decide +kernel
theorem dX5_passHouse_94 : decode cX5_passHouse 94 = .ok (.iconst 4, 1) := by decide +kernel
theorem dX5_passHouse_95 : decode cX5_passHouse 95 = .ok (.isub, 1) := by decide +kernel
theorem dX5_passHouse_96 : decode cX5_passHouse 96 = .ok (.bipush 99, 2) := by decide +kernel
theorem dX5_passHouse_98 : decode cX5_passHouse 98 = .ok (.invokestatic 136, 3) := by decide +kernel
theorem dX5_passHouse_101 : decode cX5_passHouse 101 = .ok (.iastore, 1) := by decide +kernel
theorem dX5_passHouse_102 : decode cX5_passHouse 102 = .ok (.return_, 1) := by decide +kernel
theorem dX5_loseWhatIsOut_0 : decode cX5_loseWhatIsOut 0 = .ok (.iconst 0, 1) := by decide +kernel
theorem dX5_loseWhatIsOut_1 : decode cX5_loseWhatIsOut 1 = .ok (.istore_n 2, 1) := by decide +kernel
theorem dX5_loseWhatIsOut_2 : decode cX5_loseWhatIsOut 2 = .ok (.iload_n 2, 1) := by decide +kernel
theorem dX5_loseWhatIsOut_3 : decode cX5_loseWhatIsOut 3 = .ok (.aload_n 0, 1) := by decide +kernel
theorem dX5_loseWhatIsOut_4 : decode cX5_loseWhatIsOut 4 = .ok (.getfield 52, 3) := by decide +kernel
theorem dX5_loseWhatIsOut_7 : decode cX5_loseWhatIsOut 7 = .ok (.if_icmp .ge 32, 3) := by decide +kernel
theorem dX5_loseWhatIsOut_10 : decode cX5_loseWhatIsOut 10 = .ok (.aload_n 0, 1) := by decide +kernel
theorem dX5_loseWhatIsOut_11 : decode cX5_loseWhatIsOut 11 = .ok (.getfield 27, 3) := by decide +kernel
theorem dX5_loseWhatIsOut_14 : decode cX5_loseWhatIsOut 14 = .ok (.iload_n 2, 1) := by decide +kernel
theorem dX5_loseWhatIsOut_15 : decode cX5_loseWhatIsOut 15 = .ok (.iaload, 1) := by decide +kernel
theorem dX5_loseWhatIsOut_16 : decode cX5_loseWhatIsOut 16 = .ok (.iload_n 1, 1) := by decide +kernel
theorem dX5_loseWhatIsOut_17 : decode cX5_loseWhatIsOut 17 = .ok (.if_icmp .ne 16, 3) := by decide +kernel
theorem dX5_loseWhatIsOut_20 : decode cX5_loseWhatIsOut 20 = .ok (.aload_n 0, 1) := by decide +kernel
theorem dX5_loseWhatIsOut_21 : decode cX5_loseWhatIsOut 21 = .ok (.iload_n 2, 1) := by decide +kernel
theorem dX5_loseWhatIsOut_22 : decode cX5_loseWhatIsOut 22 = .ok (.invokevirtual 113, 3) := by decide +kernel
theorem dX5_loseWhatIsOut_25 : decode cX5_loseWhatIsOut 25 = .ok (.ifCond .ne 8, 3) := by decide +kernel
theorem dX5_loseWhatIsOut_28 : decode cX5_loseWhatIsOut 28 = .ok (.aload_n 0, 1) := by decide +kernel
theorem dX5_loseWhatIsOut_29 : decode cX5_loseWhatIsOut 29 = .ok (.iload_n 2, 1) := by decide +kernel
theorem dX5_loseWhatIsOut_30 : decode cX5_loseWhatIsOut 30 = .ok (.invokevirtual 149, 3) := by decide +kernel
theorem dX5_loseWhatIsOut_33 : decode cX5_loseWhatIsOut 33 = .ok (.iinc 2 1, 3) := by decide +kernel
theorem dX5_loseWhatIsOut_36 : decode cX5_loseWhatIsOut 36 = .ok (.goto (-34), 3) := by decide +kernel
theorem dX5_loseWhatIsOut_39 : decode cX5_loseWhatIsOut 39 = .ok (.return_, 1) := by decide +kernel
theorem dX5_loseWhatIsOver_0 : decode cX5_loseWhatIsOver 0 = .ok (.aload_n 0, 1) := by decide +kernel
theorem dX5_loseWhatIsOver_1 : decode cX5_loseWhatIsOver 1 = .ok (.iload_n 1, 1) := by decide +kernel
theorem dX5_loseWhatIsOver_2 : decode cX5_loseWhatIsOver 2 = .ok (.invokevirtual 119, 3) := by decide +kernel
theorem dX5_loseWhatIsOver_5 : decode cX5_loseWhatIsOver 5 = .ok (.istore_n 2, 1) := by decide +kernel
theorem dX5_loseWhatIsOver_6 : decode cX5_loseWhatIsOver 6 = .ok (.aload_n 0, 1) := by decide +kernel
theorem dX5_loseWhatIsOver_7 : decode cX5_loseWhatIsOver 7 = .ok (.getfield 52, 3) := by decide +kernel
theorem dX5_loseWhatIsOver_10 : decode cX5_loseWhatIsOver 10 = .ok (.iconst 1, 1) := by decide +kernel
theorem dX5_loseWhatIsOver_11 : decode cX5_loseWhatIsOver 11 = .ok (.isub, 1) := by decide +kernel
theorem dX5_loseWhatIsOver_12 : decode cX5_loseWhatIsOver 12 = .ok (.istore_n 3, 1) := by decide +kernel
theorem dX5_loseWhatIsOver_13 : decode cX5_loseWhatIsOver 13 = .ok (.iload_n 3, 1) := by decide +kernel
theorem dX5_loseWhatIsOver_14 : decode cX5_loseWhatIsOver 14 = .ok (.ifCond .lt 50, 3) := by decide +kernel
theorem dX5_loseWhatIsOver_17 : decode cX5_loseWhatIsOver 17 = .ok (.iload_n 2, 1) := by decide +kernel
theorem dX5_loseWhatIsOver_18 : decode cX5_loseWhatIsOver 18 = .ok (.aload_n 0, 1) := by decide +kernel
theorem dX5_loseWhatIsOver_19 : decode cX5_loseWhatIsOver 19 = .ok (.getfield 15, 3) := by decide +kernel
theorem dX5_loseWhatIsOver_22 : decode cX5_loseWhatIsOver 22 = .ok (.iload_n 1, 1) := by decide +kernel
theorem dX5_loseWhatIsOver_23 : decode cX5_loseWhatIsOver 23 = .ok (.iaload, 1) := by decide +kernel
theorem dX5_loseWhatIsOver_24 : decode cX5_loseWhatIsOver 24 = .ok (.if_icmp .le 40, 3) := by decide +kernel
theorem dX5_loseWhatIsOver_27 : decode cX5_loseWhatIsOver 27 = .ok (.aload_n 0, 1) := by decide +kernel
theorem dX5_loseWhatIsOver_28 : decode cX5_loseWhatIsOver 28 = .ok (.getfield 27, 3) := by decide +kernel
theorem dX5_loseWhatIsOver_31 : decode cX5_loseWhatIsOver 31 = .ok (.iload_n 3, 1) := by decide +kernel
theorem dX5_loseWhatIsOver_32 : decode cX5_loseWhatIsOver 32 = .ok (.iaload, 1) := by decide +kernel
theorem dX5_loseWhatIsOver_33 : decode cX5_loseWhatIsOver 33 = .ok (.iload_n 1, 1) := by decide +kernel
theorem dX5_loseWhatIsOver_34 : decode cX5_loseWhatIsOver 34 = .ok (.if_icmp .ne 24, 3) := by decide +kernel
theorem dX5_loseWhatIsOver_37 : decode cX5_loseWhatIsOver 37 = .ok (.aload_n 0, 1) := by decide +kernel
theorem dX5_loseWhatIsOver_38 : decode cX5_loseWhatIsOver 38 = .ok (.iload_n 3, 1) := by decide +kernel
theorem dX5_loseWhatIsOver_39 : decode cX5_loseWhatIsOver 39 = .ok (.invokevirtual 100, 3) := by decide +kernel
theorem dX5_loseWhatIsOver_42 : decode cX5_loseWhatIsOver 42 = .ok (.ifCond .eq 16, 3) := by decide +kernel
theorem dX5_loseWhatIsOver_45 : decode cX5_loseWhatIsOver 45 = .ok (.iload_n 2, 1) := by decide +kernel
theorem dX5_loseWhatIsOver_46 : decode cX5_loseWhatIsOver 46 = .ok (.aload_n 0, 1) := by decide +kernel
theorem dX5_loseWhatIsOver_47 : decode cX5_loseWhatIsOver 47 = .ok (.iload_n 3, 1) := by decide +kernel
theorem dX5_loseWhatIsOver_48 : decode cX5_loseWhatIsOver 48 = .ok (.invokevirtual 103, 3) := by decide +kernel
theorem dX5_loseWhatIsOver_51 : decode cX5_loseWhatIsOver 51 = .ok (.isub, 1) := by decide +kernel
theorem dX5_loseWhatIsOver_52 : decode cX5_loseWhatIsOver 52 = .ok (.istore_n 2, 1) := by decide +kernel
theorem dX5_loseWhatIsOver_53 : decode cX5_loseWhatIsOver 53 = .ok (.aload_n 0, 1) := by decide +kernel
theorem dX5_loseWhatIsOver_54 : decode cX5_loseWhatIsOver 54 = .ok (.iload_n 3, 1) := by decide +kernel
theorem dX5_loseWhatIsOver_55 : decode cX5_loseWhatIsOver 55 = .ok (.invokevirtual 149, 3) := by decide +kernel
theorem dX5_loseWhatIsOver_58 : decode cX5_loseWhatIsOver 58 = .ok (.iinc 3 (-1), 3) := by decide +kernel
theorem dX5_loseWhatIsOver_61 : decode cX5_loseWhatIsOver 61 = .ok (.goto (-48), 3) := by decide +kernel
theorem dX5_loseWhatIsOver_64 : decode cX5_loseWhatIsOver 64 = .ok (.return_, 1) := by decide +kernel
theorem dX5_loseThing_0 : decode cX5_loseThing 0 = .ok (.aload_n 0, 1) := by decide +kernel
theorem dX5_loseThing_1 : decode cX5_loseThing 1 = .ok (.dup, 1) := by decide +kernel
theorem dX5_loseThing_2 : decode cX5_loseThing 2 = .ok (.getfield 58, 3) := by decide +kernel
theorem dX5_loseThing_5 : decode cX5_loseThing 5 = .ok (.iconst 1, 1) := by decide +kernel
theorem dX5_loseThing_6 : decode cX5_loseThing 6 = .ok (.iload_n 1, 1) := by decide +kernel
theorem dX5_loseThing_7 : decode cX5_loseThing 7 = .ok (.ishl, 1) := by decide +kernel
theorem dX5_loseThing_8 : decode cX5_loseThing 8 = .ok (.iconst (-1), 1) := by decide +kernel
theorem dX5_loseThing_9 : decode cX5_loseThing 9 = .ok (.ixor, 1) := by decide +kernel
theorem dX5_loseThing_10 : decode cX5_loseThing 10 = .ok (.iand, 1) := by decide +kernel
theorem dX5_loseThing_11 : decode cX5_loseThing 11 = .ok (.putfield 58, 3) := by decide +kernel
theorem dX5_loseThing_14 : decode cX5_loseThing 14 = .ok (.aload_n 0, 1) := by decide +kernel
theorem dX5_loseThing_15 : decode cX5_loseThing 15 = .ok (.dup, 1) := by decide +kernel
theorem dX5_loseThing_16 : decode cX5_loseThing 16 = .ok (.getfield 61, 3) := by decide +kernel
theorem dX5_loseThing_19 : decode cX5_loseThing 19 = .ok (.iconst 1, 1) := by decide +kernel
theorem dX5_loseThing_20 : decode cX5_loseThing 20 = .ok (.iload_n 1, 1) := by decide +kernel
theorem dX5_loseThing_21 : decode cX5_loseThing 21 = .ok (.ishl, 1) := by decide +kernel
theorem dX5_loseThing_22 : decode cX5_loseThing 22 = .ok (.ior, 1) := by decide +kernel
theorem dX5_loseThing_23 : decode cX5_loseThing 23 = .ok (.putfield 61, 3) := by decide +kernel
theorem dX5_loseThing_26 : decode cX5_loseThing 26 = .ok (.aload_n 0, 1) := by decide +kernel
theorem dX5_loseThing_27 : decode cX5_loseThing 27 = .ok (.sipush 999, 3) := by decide +kernel
theorem dX5_loseThing_30 : decode cX5_loseThing 30 = .ok (.aload_n 0, 1) := by decide +kernel
theorem dX5_loseThing_31 : decode cX5_loseThing 31 = .ok (.getfield 70, 3) := by decide +kernel
theorem dX5_loseThing_34 : decode cX5_loseThing 34 = .ok (.aload_n 0, 1) := by decide +kernel
theorem dX5_loseThing_35 : decode cX5_loseThing 35 = .ok (.iload_n 1, 1) := by decide +kernel
theorem dX5_loseThing_36 : decode cX5_loseThing 36 = .ok (.invokevirtual 107, 3) := by decide +kernel
theorem dX5_loseThing_39 : decode cX5_loseThing 39 = .ok (.iadd, 1) := by decide +kernel
theorem dX5_loseThing_40 : decode cX5_loseThing 40 = .ok (.invokestatic 77, 3) := by decide +kernel
theorem dX5_loseThing_43 : decode cX5_loseThing 43 = .ok (.putfield 70, 3) := by decide +kernel
theorem dX5_loseThing_46 : decode cX5_loseThing 46 = .ok (.return_, 1) := by decide +kernel
