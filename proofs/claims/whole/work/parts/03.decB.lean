theorem dX6_init_0 : decode cX6_init 0 = .ok (.aload_n 0, 1) := by decide +kernel
theorem dX6_init_1 : decode cX6_init 1 = .ok (.invokespecial 1, 3) := by decide +kernel
theorem dX6_init_4 : decode cX6_init 4 = .ok (.aload_n 0, 1) := by decide +kernel
theorem dX6_init_5 : decode cX6_init 5 = .ok (.new 7, 3) := by decide +kernel
theorem dX6_init_8 : decode cX6_init 8 = .ok (.dup, 1) := by decide +kernel
theorem dX6_init_9 : decode cX6_init 9 = .ok (.invokespecial 9, 3) := by decide +kernel
theorem dX6_init_12 : decode cX6_init 12 = .ok (.putfield 10, 3) := by decide +kernel
theorem dX6_init_15 : decode cX6_init 15 = .ok (.aload_n 0, 1) := by decide +kernel
theorem dX6_init_16 : decode cX6_init 16 = .ok (.new 7, 3) := by decide +kernel
theorem dX6_init_19 : decode cX6_init 19 = .ok (.dup, 1) := by decide +kernel
theorem dX6_init_20 : decode cX6_init 20 = .ok (.invokespecial 9, 3) := by decide +kernel
theorem dX6_init_23 : decode cX6_init 23 = .ok (.putfield 16, 3) := by decide +kernel
theorem dX6_init_26 : decode cX6_init 26 = .ok (.aload_n 0, 1) := by decide +kernel
theorem dX6_init_27 : decode cX6_init 27 = .ok (.iconst 2, 1) := by decide +kernel
theorem dX6_init_28 : decode cX6_init 28 = .ok (.anewarray 7, 3) := by decide +kernel
theorem dX6_init_31 : decode cX6_init 31 = .ok (.putfield 19, 3) := by decide +kernel
theorem dX6_init_34 : decode cX6_init 34 = .ok (.iconst 0, 1) := by decide +kernel
theorem dX6_init_35 : decode cX6_init 35 = .ok (.istore_n 1, 1) := by decide +kernel
theorem dX6_init_36 : decode cX6_init 36 = .ok (.iload_n 1, 1) := by decide +kernel
theorem dX6_init_37 : decode cX6_init 37 = .ok (.iconst 2, 1) := by decide +kernel
theorem dX6_init_38 : decode cX6_init 38 = .ok (.if_icmp .ge 22, 3) := by decide +kernel
theorem dX6_init_41 : decode cX6_init 41 = .ok (.aload_n 0, 1) := by decide +kernel
theorem dX6_init_42 : decode cX6_init 42 = .ok (.getfield 19, 3) := by decide +kernel
theorem dX6_init_45 : decode cX6_init 45 = .ok (.iload_n 1, 1) := by decide +kernel
theorem dX6_init_46 : decode cX6_init 46 = .ok (.new 7, 3) := by decide +kernel
theorem dX6_init_49 : decode cX6_init 49 = .ok (.dup, 1) := by decide +kernel
theorem dX6_init_50 : decode cX6_init 50 = .ok (.invokespecial 9, 3) := by decide +kernel
theorem dX6_init_53 : decode cX6_init 53 = .ok (.aastore, 1) := by decide +kernel
theorem dX6_init_54 : decode cX6_init 54 = .ok (.iinc 1 1, 3) := by decide +kernel
theorem dX6_init_57 : decode cX6_init 57 = .ok (.goto (-21), 3) := by decide +kernel
theorem dX6_init_60 : decode cX6_init 60 = .ok (.aload_n 0, 1) := by decide +kernel
theorem dX6_init_61 : decode cX6_init 61 = .ok (.new 23, 3) := by decide +kernel
theorem dX6_init_64 : decode cX6_init 64 = .ok (.dup, 1) := by decide +kernel
theorem dX6_init_65 : decode cX6_init 65 = .ok (.invokespecial 25, 3) := by decide +kernel
theorem dX6_init_68 : decode cX6_init 68 = .ok (.putfield 26, 3) := by decide +kernel
theorem dX6_init_71 : decode cX6_init 71 = .ok (.aload_n 0, 1) := by decide +kernel
theorem dX6_init_72 : decode cX6_init 72 = .ok (.new 30, 3) := by decide +kernel
theorem dX6_init_75 : decode cX6_init 75 = .ok (.dup, 1) := by decide +kernel
theorem dX6_init_76 : decode cX6_init 76 = .ok (.invokespecial 32, 3) := by decide +kernel
theorem dX6_init_79 : decode cX6_init 79 = .ok (.putfield 33, 3) := by decide +kernel
theorem dX6_init_82 : decode cX6_init 82 = .ok (.aload_n 0, 1) := by decide +kernel
theorem dX6_init_83 : decode cX6_init 83 = .ok (.new 37, 3) := by decide +kernel
theorem dX6_init_86 : decode cX6_init 86 = .ok (.dup, 1) := by decide +kernel
theorem dX6_init_87 : decode cX6_init 87 = .ok (.invokespecial 39, 3) := by decide +kernel
theorem dX6_init_90 : decode cX6_init 90 = .ok (.putfield 40, 3) := by decide +kernel
theorem dX6_init_93 : decode cX6_init 93 = .ok (.aload_n 0, 1) := by decide +kernel
theorem dX6_init_94 : decode cX6_init 94 = .ok (.iconst 4, 1) := by decide +kernel
theorem dX6_init_95 : decode cX6_init 95 = .ok (.anewarray 44, 3) := by decide +kernel
theorem dX6_init_98 : decode cX6_init 98 = .ok (.putfield 46, 3) := by decide +kernel
theorem dX6_init_101 : decode cX6_init 101 = .ok (.iconst 0, 1) := by decide +kernel
theorem dX6_init_102 : decode cX6_init 102 = .ok (.istore_n 1, 1) := by decide +kernel
theorem dX6_init_103 : decode cX6_init 103 = .ok (.iload_n 1, 1) := by decide +kernel
theorem dX6_init_104 : decode cX6_init 104 = .ok (.iconst 4, 1) := by decide +kernel
theorem dX6_init_105 : decode cX6_init 105 = .ok (.if_icmp .ge 22, 3) := by decide +kernel
theorem dX6_init_108 : decode cX6_init 108 = .ok (.aload_n 0, 1) := by decide +kernel
theorem dX6_init_109 : decode cX6_init 109 = .ok (.getfield 46, 3) := by decide +kernel
theorem dX6_init_112 : decode cX6_init 112 = .ok (.iload_n 1, 1) := by decide +kernel
theorem dX6_init_113 : decode cX6_init 113 = .ok (.new 44, 3) := by decide +kernel
theorem dX6_init_116 : decode cX6_init 116 = .ok (.dup, 1) := by decide +kernel
theorem dX6_init_117 : decode cX6_init 117 = .ok (.invokespecial 50, 3) := by decide +kernel
theorem dX6_init_120 : decode cX6_init 120 = .ok (.aastore, 1) := by decide +kernel
theorem dX6_init_121 : decode cX6_init 121 = .ok (.iinc 1 1, 3) := by decide +kernel
theorem dX6_init_124 : decode cX6_init 124 = .ok (.goto (-21), 3) := by decide +kernel
theorem dX6_init_127 : decode cX6_init 127 = .ok (.return_, 1) := by decide +kernel
theorem dX6_feed_0 : decode cX6_feed 0 = .ok (.iload_n 1, 1) := by decide +kernel
theorem dX6_feed_1 : decode cX6_feed 1 = .ok (.iconst 0, 1) := by decide +kernel
theorem dX6_feed_2 : decode cX6_feed 2 = .ok (.bipush 127, 2) := by decide +kernel
theorem dX6_feed_4 : decode cX6_feed 4 = .ok (.invokestatic 51, 3) := by decide +kernel
theorem dX6_feed_7 : decode cX6_feed 7 = .ok (.ifCond .ne 5, 3) := by decide +kernel
theorem dX6_feed_10 : decode cX6_feed 10 = .ok (.iconst (-1), 1) := by decide +kernel
theorem dX6_feed_11 : decode cX6_feed 11 = .ok (.ireturn, 1) := by decide +kernel
theorem dX6_feed_12 : decode cX6_feed 12 = .ok (.aload_n 0, 1) := by decide +kernel
theorem dX6_feed_13 : decode cX6_feed 13 = .ok (.getfield 26, 3) := by decide +kernel
theorem dX6_feed_16 : decode cX6_feed 16 = .ok (.getfield 55, 3) := by decide +kernel
theorem dX6_feed_19 : decode cX6_feed 19 = .ok (.iload_n 1, 1) := by decide +kernel
theorem dX6_feed_20 : decode cX6_feed 20 = .ok (.invokevirtual 59, 3) := by decide +kernel
theorem dX6_feed_23 : decode cX6_feed 23 = .ok (.ifCond .eq 16, 3) := by decide +kernel
theorem dX6_feed_26 : decode cX6_feed 26 = .ok (.aload_n 0, 1) := by decide +kernel
theorem dX6_feed_27 : decode cX6_feed 27 = .ok (.getfield 26, 3) := by decide +kernel
theorem dX6_feed_30 : decode cX6_feed 30 = .ok (.getfield 55, 3) := by decide +kernel
theorem dX6_feed_33 : decode cX6_feed 33 = .ok (.getfield 65, 3) := by decide +kernel
theorem dX6_feed_36 : decode cX6_feed 36 = .ok (.goto 5, 3) := by decide +kernel
theorem dX6_feed_39 : decode cX6_feed 39 = .ok (.bipush (-3), 2) := by decide +kernel
theorem dX6_feed_41 : decode cX6_feed 41 = .ok (.ireturn, 1) := by decide +kernel
theorem dX6_end_0 : decode cX6_end 0 = .ok (.aload_n 0, 1) := by decide +kernel
theorem dX6_end_1 : decode cX6_end 1 = .ok (.getfield 26, 3) := by decide +kernel
theorem dX6_end_4 : decode cX6_end 4 = .ok (.getfield 55, 3) := by decide +kernel
theorem dX6_end_7 : decode cX6_end 7 = .ok (.getfield 65, 3) := by decide +kernel
theorem dX6_end_10 : decode cX6_end 10 = .ok (.istore_n 2, 1) := by decide +kernel
theorem dX6_end_11 : decode cX6_end 11 = .ok (.iload_n 1, 1) := by decide +kernel
theorem dX6_end_12 : decode cX6_end 12 = .ok (.iconst 0, 1) := by decide +kernel
theorem dX6_end_13 : decode cX6_end 13 = .ok (.iload_n 2, 1) := by decide +kernel
theorem dX6_end_14 : decode cX6_end 14 = .ok (.invokestatic 51, 3) := by decide +kernel
theorem dX6_end_17 : decode cX6_end 17 = .ok (.ifCond .ne 5, 3) := by decide +kernel
theorem dX6_end_20 : decode cX6_end 20 = .ok (.iconst (-1), 1) := by decide +kernel
theorem dX6_end_21 : decode cX6_end 21 = .ok (.ireturn, 1) := by decide +kernel
theorem dX6_end_22 : decode cX6_end 22 = .ok (.aload_n 0, 1) := by decide +kernel
theorem dX6_end_23 : decode cX6_end 23 = .ok (.getfield 26, 3) := by decide +kernel
theorem dX6_end_26 : decode cX6_end 26 = .ok (.getfield 55, 3) := by decide +kernel
theorem dX6_end_29 : decode cX6_end 29 = .ok (.iload_n 1, 1) := by decide +kernel
theorem dX6_end_30 : decode cX6_end 30 = .ok (.putfield 65, 3) := by decide +kernel
theorem dX6_end_33 : decode cX6_end 33 = .ok (.iload_n 2, 1) := by decide +kernel
theorem dX6_end_34 : decode cX6_end 34 = .ok (.ireturn, 1) := by decide +kernel
theorem dX6_text_0 : decode cX6_text 0 = .ok (.aload_n 0, 1) := by decide +kernel
theorem dX6_text_1 : decode cX6_text 1 = .ok (.getfield 26, 3) := by decide +kernel
theorem dX6_text_4 : decode cX6_text 4 = .ok (.invokevirtual 69, 3) := by decide +kernel
theorem dX6_text_7 : decode cX6_text 7 = .ok (.istore_n 1, 1) := by decide +kernel
theorem dX6_text_8 : decode cX6_text 8 = .ok (.aload_n 0, 1) := by decide +kernel
theorem dX6_text_9 : decode cX6_text 9 = .ok (.getfield 26, 3) := by decide +kernel
theorem dX6_text_12 : decode cX6_text 12 = .ok (.getfield 55, 3) := by decide +kernel
theorem dX6_text_15 : decode cX6_text 15 = .ok (.iconst 0, 1) := by decide +kernel
theorem dX6_text_16 : decode cX6_text 16 = .ok (.putfield 65, 3) := by decide +kernel
theorem dX6_text_19 : decode cX6_text 19 = .ok (.aload_n 0, 1) := by decide +kernel
theorem dX6_text_20 : decode cX6_text 20 = .ok (.aload_n 0, 1) := by decide +kernel
theorem dX6_text_21 : decode cX6_text 21 = .ok (.getfield 26, 3) := by decide +kernel
theorem dX6_text_24 : decode cX6_text 24 = .ok (.getfield 73, 3) := by decide +kernel
theorem dX6_text_27 : decode cX6_text 27 = .ok (.putfield 76, 3) := by decide +kernel
theorem dX6_text_30 : decode cX6_text 30 = .ok (.aload_n 0, 1) := by decide +kernel
theorem dX6_text_31 : decode cX6_text 31 = .ok (.getfield 76, 3) := by decide +kernel
theorem dX6_text_34 : decode cX6_text 34 = .ok (.ifCond .eq 14, 3) := by decide +kernel
theorem dX6_text_37 : decode cX6_text 37 = .ok (.bipush (-10), 2) := by decide +kernel
theorem dX6_text_39 : decode cX6_text 39 = .ok (.aload_n 0, 1) := by decide +kernel
theorem dX6_text_40 : decode cX6_text 40 = .ok (.getfield 26, 3) := by decide +kernel
theorem dX6_text_43 : decode cX6_text 43 = .ok (.getfield 79, 3) := by decide +kernel
theorem dX6_text_46 : decode cX6_text 46 = .ok (.isub, 1) := by decide +kernel
theorem dX6_text_47 : decode cX6_text 47 = .ok (.ireturn, 1) := by decide +kernel
theorem dX6_text_48 : decode cX6_text 48 = .ok (.aload_n 0, 1) := by decide +kernel
theorem dX6_text_49 : decode cX6_text 49 = .ok (.getfield 10, 3) := by decide +kernel
theorem dX6_text_52 : decode cX6_text 52 = .ok (.aload_n 0, 1) := by decide +kernel
theorem dX6_text_53 : decode cX6_text 53 = .ok (.getfield 26, 3) := by decide +kernel
theorem dX6_text_56 : decode cX6_text 56 = .ok (.getfield 82, 3) := by decide +kernel
theorem dX6_text_59 : decode cX6_text 59 = .ok (.invokevirtual 85, 3) := by decide +kernel
theorem dX6_text_62 : decode cX6_text 62 = .ok (.aload_n 0, 1) := by decide +kernel
theorem dX6_text_63 : decode cX6_text 63 = .ok (.getfield 33, 3) := by decide +kernel
theorem dX6_text_66 : decode cX6_text 66 = .ok (.iconst 0, 1) := by decide +kernel
theorem dX6_text_67 : decode cX6_text 67 = .ok (.putfield 89, 3) := by decide +kernel
theorem dX6_text_70 : decode cX6_text 70 = .ok (.aload_n 0, 1) := by decide +kernel
theorem dX6_text_71 : decode cX6_text 71 = .ok (.iconst 0, 1) := by decide +kernel
theorem dX6_text_72 : decode cX6_text 72 = .ok (.putfield 92, 3) := by decide +kernel
theorem dX6_text_75 : decode cX6_text 75 = .ok (.iload_n 1, 1) := by decide +kernel
theorem dX6_text_76 : decode cX6_text 76 = .ok (.ireturn, 1) := by decide +kernel
theorem dX6_fault_0 : decode cX6_fault 0 = .ok (.aload_n 0, 1) := by decide +kernel
theorem dX6_fault_1 : decode cX6_fault 1 = .ok (.getfield 76, 3) := by decide +kernel
theorem dX6_fault_4 : decode cX6_fault 4 = .ok (.ireturn, 1) := by decide +kernel
theorem dX6_rule_0 : decode cX6_rule 0 = .ok (.iload_n 1, 1) := by decide +kernel
theorem dX6_rule_1 : decode cX6_rule 1 = .ok (.tableswitch 123 0 8 #[51, 59, 67, 75, 83, 91, 99, 107, 115], 51) := by decide +kernel
theorem dX6_rule_52 : decode cX6_rule 52 = .ok (.aload_n 0, 1) := by decide +kernel
theorem dX6_rule_53 : decode cX6_rule 53 = .ok (.getfield 10, 3) := by decide +kernel
theorem dX6_rule_56 : decode cX6_rule 56 = .ok (.getfield 95, 3) := by decide +kernel
theorem dX6_rule_59 : decode cX6_rule 59 = .ok (.ireturn, 1) := by decide +kernel
theorem dX6_rule_60 : decode cX6_rule 60 = .ok (.aload_n 0, 1) := by decide +kernel
theorem dX6_rule_61 : decode cX6_rule 61 = .ok (.getfield 10, 3) := by decide +kernel
theorem dX6_rule_64 : decode cX6_rule 64 = .ok (.getfield 98, 3) := by decide +kernel
theorem dX6_rule_67 : decode cX6_rule 67 = .ok (.ireturn, 1) := by decide +kernel
theorem dX6_rule_68 : decode cX6_rule 68 = .ok (.aload_n 0, 1) := by decide +kernel
theorem dX6_rule_69 : decode cX6_rule 69 = .ok (.getfield 10, 3) := by decide +kernel
theorem dX6_rule_72 : decode cX6_rule 72 = .ok (.getfield 101, 3) := by decide +kernel
theorem dX6_rule_75 : decode cX6_rule 75 = .ok (.ireturn, 1) := by decide +kernel
theorem dX6_rule_76 : decode cX6_rule 76 = .ok (.aload_n 0, 1) := by decide +kernel
theorem dX6_rule_77 : decode cX6_rule 77 = .ok (.getfield 10, 3) := by decide +kernel
theorem dX6_rule_80 : decode cX6_rule 80 = .ok (.getfield 104, 3) := by decide +kernel
theorem dX6_rule_83 : decode cX6_rule 83 = .ok (.ireturn, 1) := by decide +kernel
theorem dX6_rule_84 : decode cX6_rule 84 = .ok (.aload_n 0, 1) := by decide +kernel
theorem dX6_rule_85 : decode cX6_rule 85 = .ok (.getfield 10, 3) := by decide +kernel
theorem dX6_rule_88 : decode cX6_rule 88 = .ok (.getfield 107, 3) := by decide +kernel
theorem dX6_rule_91 : decode cX6_rule 91 = .ok (.ireturn, 1) := by decide +kernel
theorem dX6_rule_92 : decode cX6_rule 92 = .ok (.aload_n 0, 1) := by decide +kernel
theorem dX6_rule_93 : decode cX6_rule 93 = .ok (.getfield 10, 3) := by decide +kernel
theorem dX6_rule_96 : decode cX6_rule 96 = .ok (.getfield 110, 3) := by decide +kernel
theorem dX6_rule_99 : decode cX6_rule 99 = .ok (.ireturn, 1) := by decide +kernel
theorem dX6_rule_100 : decode cX6_rule 100 = .ok (.aload_n 0, 1) := by decide +kernel
theorem dX6_rule_101 : decode cX6_rule 101 = .ok (.getfield 10, 3) := by decide +kernel
theorem dX6_rule_104 : decode cX6_rule 104 = .ok (.getfield 113, 3) := by decide +kernel
theorem dX6_rule_107 : decode cX6_rule 107 = .ok (.ireturn, 1) := by decide +kernel
theorem dX6_rule_108 : decode cX6_rule 108 = .ok (.aload_n 0, 1) := by decide +kernel
theorem dX6_rule_109 : decode cX6_rule 109 = .ok (.getfield 10, 3) := by decide +kernel
theorem dX6_rule_112 : decode cX6_rule 112 = .ok (.getfield 116, 3) := by decide +kernel
theorem dX6_rule_115 : decode cX6_rule 115 = .ok (.ireturn, 1) := by decide +kernel
theorem dX6_rule_116 : decode cX6_rule 116 = .ok (.aload_n 0, 1) := by decide +kernel
theorem dX6_rule_117 : decode cX6_rule 117 = .ok (.getfield 10, 3) := by decide +kernel
theorem dX6_rule_120 : decode cX6_rule 120 = .ok (.getfield 119, 3) := by decide +kernel
theorem dX6_rule_123 : decode cX6_rule 123 = .ok (.ireturn, 1) := by decide +kernel
theorem dX6_rule_124 : decode cX6_rule 124 = .ok (.iconst (-1), 1) := by decide +kernel
theorem dX6_rule_125 : decode cX6_rule 125 = .ok (.ireturn, 1) := by decide +kernel
theorem dX6_house_0 : decode cX6_house 0 = .ok (.aload_n 0, 1) := by decide +kernel
theorem dX6_house_1 : decode cX6_house 1 = .ok (.getfield 10, 3) := by decide +kernel
theorem dX6_house_4 : decode cX6_house 4 = .ok (.iload_n 1, 1) := by decide +kernel
theorem dX6_house_5 : decode cX6_house 5 = .ok (.invokevirtual 122, 3) := by decide +kernel
theorem dX6_house_8 : decode cX6_house 8 = .ok (.ifCond .eq 12, 3) := by decide +kernel
theorem dX6_house_11 : decode cX6_house 11 = .ok (.iload_n 2, 1) := by decide +kernel
theorem dX6_house_12 : decode cX6_house 12 = .ok (.iconst 0, 1) := by decide +kernel
theorem dX6_house_13 : decode cX6_house 13 = .ok (.iconst 5, 1) := by decide +kernel
theorem dX6_house_14 : decode cX6_house 14 = .ok (.invokestatic 51, 3) := by decide +kernel
theorem dX6_house_17 : decode cX6_house 17 = .ok (.ifCond .ne 5, 3) := by decide +kernel
theorem dX6_house_20 : decode cX6_house 20 = .ok (.iconst (-1), 1) := by decide +kernel
theorem dX6_house_21 : decode cX6_house 21 = .ok (.ireturn, 1) := by decide +kernel
theorem dX6_house_22 : decode cX6_house 22 = .ok (.iload_n 2, 1) := by decide +kernel
theorem dX6_house_23 : decode cX6_house 23 = .ok (.lookupswitch 43 #[(4, 25), (5, 34)], 25) := by decide +kernel
theorem dX6_house_48 : decode cX6_house 48 = .ok (.aload_n 0, 1) := by decide +kernel
theorem dX6_house_49 : decode cX6_house 49 = .ok (.getfield 10, 3) := by decide +kernel
theorem dX6_house_52 : decode cX6_house 52 = .ok (.iload_n 1, 1) := by decide +kernel
theorem dX6_house_53 : decode cX6_house 53 = .ok (.invokevirtual 125, 3) := by decide +kernel
theorem dX6_house_56 : decode cX6_house 56 = .ok (.ireturn, 1) := by decide +kernel
theorem dX6_house_57 : decode cX6_house 57 = .ok (.aload_n 0, 1) := by decide +kernel
theorem dX6_house_58 : decode cX6_house 58 = .ok (.getfield 10, 3) := by decide +kernel
theorem dX6_house_61 : decode cX6_house 61 = .ok (.iload_n 1, 1) := by decide +kernel
theorem dX6_house_62 : decode cX6_house 62 = .ok (.invokevirtual 129, 3) := by decide +kernel
theorem dX6_house_65 : decode cX6_house 65 = .ok (.ireturn, 1) := by decide +kernel
theorem dX6_house_66 : decode cX6_house 66 = .ok (.aload_n 0, 1) := by decide +kernel
theorem dX6_house_67 : decode cX6_house 67 = .ok (.getfield 10, 3) := by decide +kernel
theorem dX6_house_70 : decode cX6_house 70 = .ok (.iload_n 2, 1) := by decide +kernel
theorem dX6_house_71 : decode cX6_house 71 = .ok (.invokevirtual 132, 3) := by decide +kernel
theorem dX6_house_74 : decode cX6_house 74 = .ok (.iload_n 1, 1) := by decide +kernel
theorem dX6_house_75 : decode cX6_house 75 = .ok (.iaload, 1) := by decide +kernel
theorem dX6_house_76 : decode cX6_house 76 = .ok (.ireturn, 1) := by decide +kernel
theorem dX6_thing_0 : decode cX6_thing 0 = .ok (.aload_n 0, 1) := by decide +kernel
theorem dX6_thing_1 : decode cX6_thing 1 = .ok (.getfield 10, 3) := by decide +kernel
theorem dX6_thing_4 : decode cX6_thing 4 = .ok (.iload_n 1, 1) := by decide +kernel
theorem dX6_thing_5 : decode cX6_thing 5 = .ok (.invokevirtual 136, 3) := by decide +kernel
theorem dX6_thing_8 : decode cX6_thing 8 = .ok (.ifCond .ne 5, 3) := by decide +kernel
theorem dX6_thing_11 : decode cX6_thing 11 = .ok (.iconst (-1), 1) := by decide +kernel
theorem dX6_thing_12 : decode cX6_thing 12 = .ok (.ireturn, 1) := by decide +kernel
theorem dX6_thing_13 : decode cX6_thing 13 = .ok (.iload_n 2, 1) := by decide +kernel
theorem dX6_thing_14 : decode cX6_thing 14 = .ok (.tableswitch 109 0 6 #[42, 52, 62, 72, 82, 91, 100], 42) := by decide +kernel
theorem dX6_thing_56 : decode cX6_thing 56 = .ok (.aload_n 0, 1) := by decide +kernel
theorem dX6_thing_57 : decode cX6_thing 57 = .ok (.getfield 10, 3) := by decide +kernel
theorem dX6_thing_60 : decode cX6_thing 60 = .ok (.getfield 139, 3) := by decide +kernel
theorem dX6_thing_63 : decode cX6_thing 63 = .ok (.iload_n 1, 1) := by decide +kernel
theorem dX6_thing_64 : decode cX6_thing 64 = .ok (.iaload, 1) := by decide +kernel
theorem dX6_thing_65 : decode cX6_thing 65 = .ok (.ireturn, 1) := by decide +kernel
theorem dX6_thing_66 : decode cX6_thing 66 = .ok (.aload_n 0, 1) := by decide +kernel
theorem dX6_thing_67 : decode cX6_thing 67 = .ok (.getfield 10, 3) := by decide +kernel
theorem dX6_thing_70 : decode cX6_thing 70 = .ok (.getfield 143, 3) := by decide +kernel
theorem dX6_thing_73 : decode cX6_thing 73 = .ok (.iload_n 1, 1) := by decide +kernel
theorem dX6_thing_74 : decode cX6_thing 74 = .ok (.iaload, 1) := by decide +kernel
theorem dX6_thing_75 : decode cX6_thing 75 = .ok (.ireturn, 1) := by decide +kernel
theorem dX6_thing_76 : decode cX6_thing 76 = .ok (.aload_n 0, 1) := by decide +kernel
theorem dX6_thing_77 : decode cX6_thing 77 = .ok (.getfield 10, 3) := by decide +kernel
theorem dX6_thing_80 : decode cX6_thing 80 = .ok (.getfield 146, 3) := by decide +kernel
theorem dX6_thing_83 : decode cX6_thing 83 = .ok (.iload_n 1, 1) := by decide +kernel
theorem dX6_thing_84 : decode cX6_thing 84 = .ok (.iaload, 1) := by decide +kernel
theorem dX6_thing_85 : decode cX6_thing 85 = .ok (.ireturn, 1) := by decide +kernel
theorem dX6_thing_86 : decode cX6_thing 86 = .ok (.aload_n 0, 1) := by decide +kernel
theorem dX6_thing_87 : decode cX6_thing 87 = .ok (.getfield 10, 3) := by decide +kernel
theorem dX6_thing_90 : decode cX6_thing 90 = .ok (.getfield 149, 3) := by decide +kernel
theorem dX6_thing_93 : decode cX6_thing 93 = .ok (.iload_n 1, 1) := by decide +kernel
theorem dX6_thing_94 : decode cX6_thing 94 = .ok (.iaload, 1) := by decide +kernel
theorem dX6_thing_95 : decode cX6_thing 95 = .ok (.ireturn, 1) := by decide +kernel
theorem dX6_thing_96 : decode cX6_thing 96 = .ok (.aload_n 0, 1) := by decide +kernel
theorem dX6_thing_97 : decode cX6_thing 97 = .ok (.getfield 10, 3) := by decide +kernel
theorem dX6_thing_100 : decode cX6_thing 100 = .ok (.iload_n 1, 1) := by decide +kernel
theorem dX6_thing_101 : decode cX6_thing 101 = .ok (.invokevirtual 152, 3) := by decide +kernel
theorem dX6_thing_104 : decode cX6_thing 104 = .ok (.ireturn, 1) := by decide +kernel
theorem dX6_thing_105 : decode cX6_thing 105 = .ok (.aload_n 0, 1) := by decide +kernel
theorem dX6_thing_106 : decode cX6_thing 106 = .ok (.getfield 10, 3) := by decide +kernel
theorem dX6_thing_109 : decode cX6_thing 109 = .ok (.iload_n 1, 1) := by decide +kernel
theorem dX6_thing_110 : decode cX6_thing 110 = .ok (.invokevirtual 155, 3) := by decide +kernel
theorem dX6_thing_113 : decode cX6_thing 113 = .ok (.ireturn, 1) := by decide +kernel
theorem dX6_thing_114 : decode cX6_thing 114 = .ok (.aload_n 0, 1) := by decide +kernel
theorem dX6_thing_115 : decode cX6_thing 115 = .ok (.getfield 10, 3) := by decide +kernel
theorem dX6_thing_118 : decode cX6_thing 118 = .ok (.iload_n 1, 1) := by decide +kernel
theorem dX6_thing_119 : decode cX6_thing 119 = .ok (.invokevirtual 158, 3) := by decide +kernel
theorem dX6_thing_122 : decode cX6_thing 122 = .ok (.ireturn, 1) := by decide +kernel
theorem dX6_thing_123 : decode cX6_thing 123 = .ok (.iconst (-1), 1) := by decide +kernel
theorem dX6_thing_124 : decode cX6_thing 124 = .ok (.ireturn, 1) := by decide +kernel
theorem dX6_rise_0 : decode cX6_rise 0 = .ok (.iload_n 1, 1) := by decide +kernel
theorem dX6_rise_1 : decode cX6_rise 1 = .ok (.invokestatic 161, 3) := by decide +kernel
theorem dX6_rise_4 : decode cX6_rise 4 = .ok (.ifCond .eq 15, 3) := by decide +kernel
theorem dX6_rise_7 : decode cX6_rise 7 = .ok (.aload_n 0, 1) := by decide +kernel
theorem dX6_rise_8 : decode cX6_rise 8 = .ok (.getfield 10, 3) := by decide +kernel
theorem dX6_rise_11 : decode cX6_rise 11 = .ok (.getfield 164, 3) := by decide +kernel
theorem dX6_rise_14 : decode cX6_rise 14 = .ok (.iload_n 1, 1) := by decide +kernel
theorem dX6_rise_15 : decode cX6_rise 15 = .ok (.iaload, 1) := by decide +kernel
theorem dX6_rise_16 : decode cX6_rise 16 = .ok (.goto 4, 3) := by decide +kernel
theorem dX6_rise_19 : decode cX6_rise 19 = .ok (.iconst (-1), 1) := by decide +kernel
theorem dX6_rise_20 : decode cX6_rise 20 = .ok (.ireturn, 1) := by decide +kernel
theorem dX6_build_0 : decode cX6_build 0 = .ok (.aload_n 0, 1) := by decide +kernel
theorem dX6_build_1 : decode cX6_build 1 = .ok (.getfield 10, 3) := by decide +kernel
theorem dX6_build_4 : decode cX6_build 4 = .ok (.iload_n 1, 1) := by decide +kernel
theorem dX6_build_5 : decode cX6_build 5 = .ok (.invokevirtual 122, 3) := by decide +kernel
theorem dX6_build_8 : decode cX6_build 8 = .ok (.ifCond .eq 25, 3) := by decide +kernel
theorem dX6_build_11 : decode cX6_build 11 = .ok (.iload_n 2, 1) := by decide +kernel
theorem dX6_build_12 : decode cX6_build 12 = .ok (.iconst 0, 1) := by decide +kernel
theorem dX6_build_13 : decode cX6_build 13 = .ok (.iconst 3, 1) := by decide +kernel
theorem dX6_build_14 : decode cX6_build 14 = .ok (.invokestatic 51, 3) := by decide +kernel
theorem dX6_build_17 : decode cX6_build 17 = .ok (.ifCond .eq 16, 3) := by decide +kernel
theorem dX6_build_20 : decode cX6_build 20 = .ok (.iload_n 3, 1) := by decide +kernel
theorem dX6_build_21 : decode cX6_build 21 = .ok (.iconst 0, 1) := by decide +kernel
theorem dX6_build_22 : decode cX6_build 22 = .ok (.getstatic 167, 3) := by decide +kernel
theorem dX6_build_25 : decode cX6_build 25 = .ok (.iload_n 2, 1) := by decide +kernel
theorem dX6_build_26 : decode cX6_build 26 = .ok (.iaload, 1) := by decide +kernel
theorem dX6_build_27 : decode cX6_build 27 = .ok (.invokestatic 51, 3) := by decide +kernel
theorem dX6_build_30 : decode cX6_build 30 = .ok (.ifCond .ne 5, 3) := by decide +kernel
theorem dX6_build_33 : decode cX6_build 33 = .ok (.iconst (-1), 1) := by decide +kernel
theorem dX6_build_34 : decode cX6_build 34 = .ok (.ireturn, 1) := by decide +kernel
theorem dX6_build_35 : decode cX6_build 35 = .ok (.aload_n 0, 1) := by decide +kernel
theorem dX6_build_36 : decode cX6_build 36 = .ok (.getfield 10, 3) := by decide +kernel
theorem dX6_build_39 : decode cX6_build 39 = .ok (.iload_n 2, 1) := by decide +kernel
theorem dX6_build_40 : decode cX6_build 40 = .ok (.invokevirtual 132, 3) := by decide +kernel
theorem dX6_build_43 : decode cX6_build 43 = .ok (.iload_n 1, 1) := by decide +kernel
theorem dX6_build_44 : decode cX6_build 44 = .ok (.iload_n 3, 1) := by decide +kernel
theorem dX6_build_45 : decode cX6_build 45 = .ok (.invokestatic 170, 3) := by decide +kernel
theorem dX6_build_48 : decode cX6_build 48 = .ok (.ireturn, 1) := by decide +kernel
theorem dX6_alter_0 : decode cX6_alter 0 = .ok (.aload_n 0, 1) := by decide +kernel
theorem dX6_alter_1 : decode cX6_alter 1 = .ok (.getfield 10, 3) := by decide +kernel
theorem dX6_alter_4 : decode cX6_alter 4 = .ok (.iload_n 1, 1) := by decide +kernel
theorem dX6_alter_5 : decode cX6_alter 5 = .ok (.invokevirtual 136, 3) := by decide +kernel
theorem dX6_alter_8 : decode cX6_alter 8 = .ok (.ifCond .eq 29, 3) := by decide +kernel
theorem dX6_alter_11 : decode cX6_alter 11 = .ok (.iload_n 2, 1) := by decide +kernel
theorem dX6_alter_12 : decode cX6_alter 12 = .ok (.iconst 0, 1) := by decide +kernel
theorem dX6_alter_13 : decode cX6_alter 13 = .ok (.iconst 2, 1) := by decide +kernel
theorem dX6_alter_14 : decode cX6_alter 14 = .ok (.invokestatic 51, 3) := by decide +kernel
theorem dX6_alter_17 : decode cX6_alter 17 = .ok (.ifCond .eq 20, 3) := by decide +kernel
theorem dX6_alter_20 : decode cX6_alter 20 = .ok (.iload_n 3, 1) := by decide +kernel
theorem dX6_alter_21 : decode cX6_alter 21 = .ok (.getstatic 174, 3) := by decide +kernel
theorem dX6_alter_24 : decode cX6_alter 24 = .ok (.iload_n 2, 1) := by decide +kernel
theorem dX6_alter_25 : decode cX6_alter 25 = .ok (.iaload, 1) := by decide +kernel
theorem dX6_alter_26 : decode cX6_alter 26 = .ok (.getstatic 177, 3) := by decide +kernel
theorem dX6_alter_29 : decode cX6_alter 29 = .ok (.iload_n 2, 1) := by decide +kernel
theorem dX6_alter_30 : decode cX6_alter 30 = .ok (.iaload, 1) := by decide +kernel
theorem dX6_alter_31 : decode cX6_alter 31 = .ok (.invokestatic 51, 3) := by decide +kernel
theorem dX6_alter_34 : decode cX6_alter 34 = .ok (.ifCond .ne 5, 3) := by decide +kernel
theorem dX6_alter_37 : decode cX6_alter 37 = .ok (.iconst (-1), 1) := by decide +kernel
theorem dX6_alter_38 : decode cX6_alter 38 = .ok (.ireturn, 1) := by decide +kernel
theorem dX6_alter_39 : decode cX6_alter 39 = .ok (.aload_n 0, 1) := by decide +kernel
theorem dX6_alter_40 : decode cX6_alter 40 = .ok (.getfield 10, 3) := by decide +kernel
theorem dX6_alter_43 : decode cX6_alter 43 = .ok (.iload_n 2, 1) := by decide +kernel
theorem dX6_alter_44 : decode cX6_alter 44 = .ok (.invokevirtual 180, 3) := by decide +kernel
theorem dX6_alter_47 : decode cX6_alter 47 = .ok (.iload_n 1, 1) := by decide +kernel
theorem dX6_alter_48 : decode cX6_alter 48 = .ok (.iload_n 3, 1) := by decide +kernel
theorem dX6_alter_49 : decode cX6_alter 49 = .ok (.invokestatic 170, 3) := by decide +kernel
theorem dX6_alter_52 : decode cX6_alter 52 = .ok (.ireturn, 1) := by decide +kernel
theorem dX6_tide_0 : decode cX6_tide 0 = .ok (.iload_n 1, 1) := by decide +kernel
theorem dX6_tide_1 : decode cX6_tide 1 = .ok (.invokestatic 161, 3) := by decide +kernel
theorem dX6_tide_4 : decode cX6_tide 4 = .ok (.ifCond .eq 13, 3) := by decide +kernel
theorem dX6_tide_7 : decode cX6_tide 7 = .ok (.iload_n 2, 1) := by decide +kernel
theorem dX6_tide_8 : decode cX6_tide 8 = .ok (.iconst 0, 1) := by decide +kernel
theorem dX6_tide_9 : decode cX6_tide 9 = .ok (.bipush 8, 2) := by decide +kernel
theorem dX6_tide_11 : decode cX6_tide 11 = .ok (.invokestatic 51, 3) := by decide +kernel
theorem dX6_tide_14 : decode cX6_tide 14 = .ok (.ifCond .ne 5, 3) := by decide +kernel
theorem dX6_tide_17 : decode cX6_tide 17 = .ok (.iconst (-1), 1) := by decide +kernel
theorem dX6_tide_18 : decode cX6_tide 18 = .ok (.ireturn, 1) := by decide +kernel
theorem dX6_tide_19 : decode cX6_tide 19 = .ok (.aload_n 0, 1) := by decide +kernel
theorem dX6_tide_20 : decode cX6_tide 20 = .ok (.getfield 10, 3) := by decide +kernel
theorem dX6_tide_23 : decode cX6_tide 23 = .ok (.getfield 164, 3) := by decide +kernel
theorem dX6_tide_26 : decode cX6_tide 26 = .ok (.iload_n 1, 1) := by decide +kernel
theorem dX6_tide_27 : decode cX6_tide 27 = .ok (.iload_n 2, 1) := by decide +kernel
theorem dX6_tide_28 : decode cX6_tide 28 = .ok (.invokestatic 170, 3) := by decide +kernel
theorem dX6_tide_31 : decode cX6_tide 31 = .ok (.ireturn, 1) := by decide +kernel
theorem dX6_blow_0 : decode cX6_blow 0 = .ok (.iload_n 1, 1) := by decide +kernel
theorem dX6_blow_1 : decode cX6_blow 1 = .ok (.iconst 0, 1) := by decide +kernel
theorem dX6_blow_2 : decode cX6_blow 2 = .ok (.bipush 8, 2) := by decide +kernel
theorem dX6_blow_4 : decode cX6_blow 4 = .ok (.invokestatic 51, 3) := by decide +kernel
theorem dX6_blow_7 : decode cX6_blow 7 = .ok (.ifCond .ne 5, 3) := by decide +kernel
theorem dX6_blow_10 : decode cX6_blow 10 = .ok (.iconst (-1), 1) := by decide +kernel
theorem dX6_blow_11 : decode cX6_blow 11 = .ok (.ireturn, 1) := by decide +kernel
theorem dX6_blow_12 : decode cX6_blow 12 = .ok (.aload_n 0, 1) := by decide +kernel
theorem dX6_blow_13 : decode cX6_blow 13 = .ok (.getfield 10, 3) := by decide +kernel
theorem dX6_blow_16 : decode cX6_blow 16 = .ok (.getfield 110, 3) := by decide +kernel
theorem dX6_blow_19 : decode cX6_blow 19 = .ok (.istore_n 2, 1) := by decide +kernel
theorem dX6_blow_20 : decode cX6_blow 20 = .ok (.aload_n 0, 1) := by decide +kernel
theorem dX6_blow_21 : decode cX6_blow 21 = .ok (.getfield 10, 3) := by decide +kernel
theorem dX6_blow_24 : decode cX6_blow 24 = .ok (.iload_n 1, 1) := by decide +kernel
theorem dX6_blow_25 : decode cX6_blow 25 = .ok (.putfield 110, 3) := by decide +kernel
theorem dX6_blow_28 : decode cX6_blow 28 = .ok (.iload_n 2, 1) := by decide +kernel
theorem dX6_blow_29 : decode cX6_blow 29 = .ok (.ireturn, 1) := by decide +kernel
theorem dX6_stow_0 : decode cX6_stow 0 = .ok (.aload_n 0, 1) := by decide +kernel
theorem dX6_stow_1 : decode cX6_stow 1 = .ok (.getfield 10, 3) := by decide +kernel
theorem dX6_stow_4 : decode cX6_stow 4 = .ok (.iload_n 1, 1) := by decide +kernel
theorem dX6_stow_5 : decode cX6_stow 5 = .ok (.invokevirtual 183, 3) := by decide +kernel
theorem dX6_stow_8 : decode cX6_stow 8 = .ok (.ireturn, 1) := by decide +kernel
theorem dX6_fetch_0 : decode cX6_fetch 0 = .ok (.aload_n 0, 1) := by decide +kernel
theorem dX6_fetch_1 : decode cX6_fetch 1 = .ok (.getfield 10, 3) := by decide +kernel
theorem dX6_fetch_4 : decode cX6_fetch 4 = .ok (.iload_n 1, 1) := by decide +kernel
theorem dX6_fetch_5 : decode cX6_fetch 5 = .ok (.invokevirtual 186, 3) := by decide +kernel
theorem dX6_fetch_8 : decode cX6_fetch 8 = .ok (.ireturn, 1) := by decide +kernel
theorem dX6_days_0 : decode cX6_days 0 = .ok (.iload_n 1, 1) := by decide +kernel
theorem dX6_days_1 : decode cX6_days 1 = .ok (.iconst 0, 1) := by decide +kernel
theorem dX6_days_2 : decode cX6_days 2 = .ok (.bipush 30, 2) := by decide +kernel
theorem dX6_days_4 : decode cX6_days 4 = .ok (.invokestatic 51, 3) := by decide +kernel
theorem dX6_days_7 : decode cX6_days 7 = .ok (.ifCond .ne 5, 3) := by decide +kernel
theorem dX6_days_10 : decode cX6_days 10 = .ok (.iconst (-1), 1) := by decide +kernel
theorem dX6_days_11 : decode cX6_days 11 = .ok (.ireturn, 1) := by decide +kernel
theorem dX6_days_12 : decode cX6_days 12 = .ok (.aload_n 0, 1) := by decide +kernel
theorem dX6_days_13 : decode cX6_days 13 = .ok (.getfield 10, 3) := by decide +kernel
theorem dX6_days_16 : decode cX6_days 16 = .ok (.getfield 101, 3) := by decide +kernel
theorem dX6_days_19 : decode cX6_days 19 = .ok (.iload_n 1, 1) := by decide +kernel
theorem dX6_days_20 : decode cX6_days 20 = .ok (.iadd, 1) := by decide +kernel
theorem dX6_days_21 : decode cX6_days 21 = .ok (.sipush 1000, 3) := by decide +kernel
theorem dX6_days_24 : decode cX6_days 24 = .ok (.if_icmp .lt 6, 3) := by decide +kernel
theorem dX6_days_27 : decode cX6_days 27 = .ok (.bipush (-3), 2) := by decide +kernel
theorem dX6_days_29 : decode cX6_days 29 = .ok (.ireturn, 1) := by decide +kernel
theorem dX6_days_30 : decode cX6_days 30 = .ok (.aload_n 0, 1) := by decide +kernel
theorem dX6_days_31 : decode cX6_days 31 = .ok (.getfield 10, 3) := by decide +kernel
theorem dX6_days_34 : decode cX6_days 34 = .ok (.getfield 107, 3) := by decide +kernel
theorem dX6_days_37 : decode cX6_days 37 = .ok (.istore_n 2, 1) := by decide +kernel
theorem dX6_days_38 : decode cX6_days 38 = .ok (.aload_n 0, 1) := by decide +kernel
theorem dX6_days_39 : decode cX6_days 39 = .ok (.getfield 10, 3) := by decide +kernel
theorem dX6_days_42 : decode cX6_days 42 = .ok (.iload_n 1, 1) := by decide +kernel
theorem dX6_days_43 : decode cX6_days 43 = .ok (.invokevirtual 189, 3) := by decide +kernel
theorem dX6_days_46 : decode cX6_days 46 = .ok (.aload_n 0, 1) := by decide +kernel
theorem dX6_days_47 : decode cX6_days 47 = .ok (.getfield 10, 3) := by decide +kernel
theorem dX6_days_50 : decode cX6_days 50 = .ok (.getfield 107, 3) := by decide +kernel
theorem dX6_days_53 : decode cX6_days 53 = .ok (.iload_n 2, 1) := by decide +kernel
theorem dX6_days_54 : decode cX6_days 54 = .ok (.isub, 1) := by decide +kernel
theorem dX6_days_55 : decode cX6_days 55 = .ok (.ireturn, 1) := by decide +kernel
theorem dX6_runs_0 : decode cX6_runs 0 = .ok (.iload_n 1, 1) := by decide +kernel
theorem dX6_runs_1 : decode cX6_runs 1 = .ok (.invokestatic 193, 3) := by decide +kernel
theorem dX6_runs_4 : decode cX6_runs 4 = .ok (.ifCond .eq 12, 3) := by decide +kernel
theorem dX6_runs_7 : decode cX6_runs 7 = .ok (.iload_n 2, 1) := by decide +kernel
theorem dX6_runs_8 : decode cX6_runs 8 = .ok (.iconst 0, 1) := by decide +kernel
theorem dX6_runs_9 : decode cX6_runs 9 = .ok (.iconst 3, 1) := by decide +kernel
theorem dX6_runs_10 : decode cX6_runs 10 = .ok (.invokestatic 51, 3) := by decide +kernel
theorem dX6_runs_13 : decode cX6_runs 13 = .ok (.ifCond .ne 5, 3) := by decide +kernel
theorem dX6_runs_16 : decode cX6_runs 16 = .ok (.iconst (-1), 1) := by decide +kernel
theorem dX6_runs_17 : decode cX6_runs 17 = .ok (.ireturn, 1) := by decide +kernel
theorem dX6_runs_18 : decode cX6_runs 18 = .ok (.aload_n 0, 1) := by decide +kernel
theorem dX6_runs_19 : decode cX6_runs 19 = .ok (.invokevirtual 196, 3) := by decide +kernel
theorem dX6_runs_22 : decode cX6_runs 22 = .ok (.astore_n 3, 1) := by decide +kernel
theorem dX6_runs_23 : decode cX6_runs 23 = .ok (.aload_n 3, 1) := by decide +kernel
theorem dX6_runs_24 : decode cX6_runs 24 = .ok (.getfield 104, 3) := by decide +kernel
theorem dX6_runs_27 : decode cX6_runs 27 = .ok (.istore 4, 2) := by decide +kernel
theorem dX6_runs_29 : decode cX6_runs 29 = .ok (.iconst 0, 1) := by decide +kernel
theorem dX6_runs_30 : decode cX6_runs 30 = .ok (.istore 5, 2) := by decide +kernel
theorem dX6_runs_32 : decode cX6_runs 32 = .ok (.iload 5, 2) := by decide +kernel
theorem dX6_runs_34 : decode cX6_runs 34 = .ok (.iload_n 1, 1) := by decide +kernel
theorem dX6_runs_35 : decode cX6_runs 35 = .ok (.if_icmp .ge 25, 3) := by decide +kernel
theorem dX6_runs_38 : decode cX6_runs 38 = .ok (.aload_n 3, 1) := by decide +kernel
theorem dX6_runs_39 : decode cX6_runs 39 = .ok (.iconst 1, 1) := by decide +kernel
theorem dX6_runs_40 : decode cX6_runs 40 = .ok (.invokevirtual 189, 3) := by decide +kernel
theorem dX6_runs_43 : decode cX6_runs 43 = .ok (.iload 4, 2) := by decide +kernel
theorem dX6_runs_45 : decode cX6_runs 45 = .ok (.aload_n 3, 1) := by decide +kernel
theorem dX6_runs_46 : decode cX6_runs 46 = .ok (.getfield 104, 3) := by decide +kernel
theorem dX6_runs_49 : decode cX6_runs 49 = .ok (.invokestatic 200, 3) := by decide +kernel
theorem dX6_runs_52 : decode cX6_runs 52 = .ok (.istore 4, 2) := by decide +kernel
theorem dX6_runs_54 : decode cX6_runs 54 = .ok (.iinc 5 1, 3) := by decide +kernel
theorem dX6_runs_57 : decode cX6_runs 57 = .ok (.goto (-25), 3) := by decide +kernel
theorem dX6_runs_60 : decode cX6_runs 60 = .ok (.iload_n 2, 1) := by decide +kernel
theorem dX6_runs_61 : decode cX6_runs 61 = .ok (.tableswitch 50 0 2 #[27, 40, 45], 27) := by decide +kernel
theorem dX6_runs_88 : decode cX6_runs 88 = .ok (.aload_n 3, 1) := by decide +kernel
theorem dX6_runs_89 : decode cX6_runs 89 = .ok (.getfield 107, 3) := by decide +kernel
theorem dX6_runs_92 : decode cX6_runs 92 = .ok (.aload_n 0, 1) := by decide +kernel
theorem dX6_runs_93 : decode cX6_runs 93 = .ok (.getfield 10, 3) := by decide +kernel
theorem dX6_runs_96 : decode cX6_runs 96 = .ok (.getfield 107, 3) := by decide +kernel
theorem dX6_runs_99 : decode cX6_runs 99 = .ok (.isub, 1) := by decide +kernel
theorem dX6_runs_100 : decode cX6_runs 100 = .ok (.ireturn, 1) := by decide +kernel
theorem dX6_runs_101 : decode cX6_runs 101 = .ok (.aload_n 3, 1) := by decide +kernel
theorem dX6_runs_102 : decode cX6_runs 102 = .ok (.getfield 119, 3) := by decide +kernel
theorem dX6_runs_105 : decode cX6_runs 105 = .ok (.ireturn, 1) := by decide +kernel
theorem dX6_runs_106 : decode cX6_runs 106 = .ok (.aload_n 3, 1) := by decide +kernel
theorem dX6_runs_107 : decode cX6_runs 107 = .ok (.getfield 113, 3) := by decide +kernel
theorem dX6_runs_110 : decode cX6_runs 110 = .ok (.ireturn, 1) := by decide +kernel
theorem dX6_runs_111 : decode cX6_runs 111 = .ok (.iload 4, 2) := by decide +kernel
theorem dX6_runs_113 : decode cX6_runs 113 = .ok (.ireturn, 1) := by decide +kernel
theorem dX6_ahead_0 : decode cX6_ahead 0 = .ok (.aload_n 0, 1) := by decide +kernel
theorem dX6_ahead_1 : decode cX6_ahead 1 = .ok (.getfield 10, 3) := by decide +kernel
theorem dX6_ahead_4 : decode cX6_ahead 4 = .ok (.iload_n 1, 1) := by decide +kernel
theorem dX6_ahead_5 : decode cX6_ahead 5 = .ok (.invokevirtual 122, 3) := by decide +kernel
theorem dX6_ahead_8 : decode cX6_ahead 8 = .ok (.ifCond .eq 19, 3) := by decide +kernel
theorem dX6_ahead_11 : decode cX6_ahead 11 = .ok (.iload_n 2, 1) := by decide +kernel
theorem dX6_ahead_12 : decode cX6_ahead 12 = .ok (.invokestatic 193, 3) := by decide +kernel
theorem dX6_ahead_15 : decode cX6_ahead 15 = .ok (.ifCond .eq 12, 3) := by decide +kernel
theorem dX6_ahead_18 : decode cX6_ahead 18 = .ok (.iload_n 3, 1) := by decide +kernel
theorem dX6_ahead_19 : decode cX6_ahead 19 = .ok (.iconst 0, 1) := by decide +kernel
theorem dX6_ahead_20 : decode cX6_ahead 20 = .ok (.iconst 1, 1) := by decide +kernel
theorem dX6_ahead_21 : decode cX6_ahead 21 = .ok (.invokestatic 51, 3) := by decide +kernel
theorem dX6_ahead_24 : decode cX6_ahead 24 = .ok (.ifCond .ne 5, 3) := by decide +kernel
theorem dX6_ahead_27 : decode cX6_ahead 27 = .ok (.iconst (-1), 1) := by decide +kernel
theorem dX6_ahead_28 : decode cX6_ahead 28 = .ok (.ireturn, 1) := by decide +kernel
theorem dX6_ahead_29 : decode cX6_ahead 29 = .ok (.aload_n 0, 1) := by decide +kernel
theorem dX6_ahead_30 : decode cX6_ahead 30 = .ok (.invokevirtual 196, 3) := by decide +kernel
theorem dX6_ahead_33 : decode cX6_ahead 33 = .ok (.astore 4, 2) := by decide +kernel
theorem dX6_ahead_35 : decode cX6_ahead 35 = .ok (.aload 4, 2) := by decide +kernel
theorem dX6_ahead_37 : decode cX6_ahead 37 = .ok (.iload_n 2, 1) := by decide +kernel
theorem dX6_ahead_38 : decode cX6_ahead 38 = .ok (.invokevirtual 189, 3) := by decide +kernel
theorem dX6_ahead_41 : decode cX6_ahead 41 = .ok (.iload_n 3, 1) := by decide +kernel
theorem dX6_ahead_42 : decode cX6_ahead 42 = .ok (.ifCond .ne 13, 3) := by decide +kernel
theorem dX6_ahead_45 : decode cX6_ahead 45 = .ok (.aload 4, 2) := by decide +kernel
theorem dX6_ahead_47 : decode cX6_ahead 47 = .ok (.getfield 206, 3) := by decide +kernel
theorem dX6_ahead_50 : decode cX6_ahead 50 = .ok (.iload_n 1, 1) := by decide +kernel
theorem dX6_ahead_51 : decode cX6_ahead 51 = .ok (.iaload, 1) := by decide +kernel
theorem dX6_ahead_52 : decode cX6_ahead 52 = .ok (.goto 10, 3) := by decide +kernel
theorem dX6_ahead_55 : decode cX6_ahead 55 = .ok (.aload 4, 2) := by decide +kernel
theorem dX6_ahead_57 : decode cX6_ahead 57 = .ok (.getfield 209, 3) := by decide +kernel
theorem dX6_ahead_60 : decode cX6_ahead 60 = .ok (.iload_n 1, 1) := by decide +kernel
theorem dX6_ahead_61 : decode cX6_ahead 61 = .ok (.iaload, 1) := by decide +kernel
theorem dX6_ahead_62 : decode cX6_ahead 62 = .ok (.ireturn, 1) := by decide +kernel
theorem dX6_lost_0 : decode cX6_lost 0 = .ok (.aload_n 0, 1) := by decide +kernel
theorem dX6_lost_1 : decode cX6_lost 1 = .ok (.getfield 10, 3) := by decide +kernel
theorem dX6_lost_4 : decode cX6_lost 4 = .ok (.iload_n 1, 1) := by decide +kernel
theorem dX6_lost_5 : decode cX6_lost 5 = .ok (.invokevirtual 136, 3) := by decide +kernel
theorem dX6_lost_8 : decode cX6_lost 8 = .ok (.ifCond .ne 5, 3) := by decide +kernel
theorem dX6_lost_11 : decode cX6_lost 11 = .ok (.iconst (-1), 1) := by decide +kernel
theorem dX6_lost_12 : decode cX6_lost 12 = .ok (.ireturn, 1) := by decide +kernel
theorem dX6_lost_13 : decode cX6_lost 13 = .ok (.aload_n 0, 1) := by decide +kernel
theorem dX6_lost_14 : decode cX6_lost 14 = .ok (.invokevirtual 196, 3) := by decide +kernel
theorem dX6_lost_17 : decode cX6_lost 17 = .ok (.astore_n 2, 1) := by decide +kernel
theorem dX6_lost_18 : decode cX6_lost 18 = .ok (.iconst 0, 1) := by decide +kernel
theorem dX6_lost_19 : decode cX6_lost 19 = .ok (.istore_n 3, 1) := by decide +kernel
theorem dX6_lost_20 : decode cX6_lost 20 = .ok (.iload_n 3, 1) := by decide +kernel
theorem dX6_lost_21 : decode cX6_lost 21 = .ok (.bipush 60, 2) := by decide +kernel
theorem dX6_lost_23 : decode cX6_lost 23 = .ok (.if_icmp .gt 24, 3) := by decide +kernel
theorem dX6_lost_26 : decode cX6_lost 26 = .ok (.aload_n 2, 1) := by decide +kernel
theorem dX6_lost_27 : decode cX6_lost 27 = .ok (.iload_n 1, 1) := by decide +kernel
theorem dX6_lost_28 : decode cX6_lost 28 = .ok (.invokevirtual 212, 3) := by decide +kernel
theorem dX6_lost_31 : decode cX6_lost 31 = .ok (.ifCond .eq 5, 3) := by decide +kernel
theorem dX6_lost_34 : decode cX6_lost 34 = .ok (.iload_n 3, 1) := by decide +kernel
theorem dX6_lost_35 : decode cX6_lost 35 = .ok (.ireturn, 1) := by decide +kernel
theorem dX6_lost_36 : decode cX6_lost 36 = .ok (.aload_n 2, 1) := by decide +kernel
theorem dX6_lost_37 : decode cX6_lost 37 = .ok (.iconst 1, 1) := by decide +kernel
theorem dX6_lost_38 : decode cX6_lost 38 = .ok (.invokevirtual 189, 3) := by decide +kernel
theorem dX6_lost_41 : decode cX6_lost 41 = .ok (.iinc 3 1, 3) := by decide +kernel
theorem dX6_lost_44 : decode cX6_lost 44 = .ok (.goto (-24), 3) := by decide +kernel
theorem dX6_lost_47 : decode cX6_lost 47 = .ok (.bipush (-4), 2) := by decide +kernel
theorem dX6_lost_49 : decode cX6_lost 49 = .ok (.ireturn, 1) := by decide +kernel
theorem dX6_meet_0 : decode cX6_meet 0 = .ok (.aload_n 0, 1) := by decide +kernel
theorem dX6_meet_1 : decode cX6_meet 1 = .ok (.getfield 10, 3) := by decide +kernel
theorem dX6_meet_4 : decode cX6_meet 4 = .ok (.iload_n 1, 1) := by decide +kernel
theorem dX6_meet_5 : decode cX6_meet 5 = .ok (.invokevirtual 122, 3) := by decide +kernel
theorem dX6_meet_8 : decode cX6_meet 8 = .ok (.ifCond .eq 19, 3) := by decide +kernel
theorem dX6_meet_11 : decode cX6_meet 11 = .ok (.aload_n 0, 1) := by decide +kernel
theorem dX6_meet_12 : decode cX6_meet 12 = .ok (.getfield 10, 3) := by decide +kernel
theorem dX6_meet_15 : decode cX6_meet 15 = .ok (.iload_n 2, 1) := by decide +kernel
theorem dX6_meet_16 : decode cX6_meet 16 = .ok (.invokevirtual 122, 3) := by decide +kernel
theorem dX6_meet_19 : decode cX6_meet 19 = .ok (.ifCond .eq 8, 3) := by decide +kernel
theorem dX6_meet_22 : decode cX6_meet 22 = .ok (.iload_n 1, 1) := by decide +kernel
theorem dX6_meet_23 : decode cX6_meet 23 = .ok (.iload_n 2, 1) := by decide +kernel
theorem dX6_meet_24 : decode cX6_meet 24 = .ok (.if_icmp .ne 5, 3) := by decide +kernel
theorem dX6_meet_27 : decode cX6_meet 27 = .ok (.iconst (-1), 1) := by decide +kernel
theorem dX6_meet_28 : decode cX6_meet 28 = .ok (.ireturn, 1) := by decide +kernel
theorem dX6_meet_29 : decode cX6_meet 29 = .ok (.aload_n 0, 1) := by decide +kernel
theorem dX6_meet_30 : decode cX6_meet 30 = .ok (.invokevirtual 196, 3) := by decide +kernel
theorem dX6_meet_33 : decode cX6_meet 33 = .ok (.astore_n 3, 1) := by decide +kernel
theorem dX6_meet_34 : decode cX6_meet 34 = .ok (.iconst 0, 1) := by decide +kernel
theorem dX6_meet_35 : decode cX6_meet 35 = .ok (.istore 4, 2) := by decide +kernel
theorem dX6_meet_37 : decode cX6_meet 37 = .ok (.iload 4, 2) := by decide +kernel
theorem dX6_meet_39 : decode cX6_meet 39 = .ok (.bipush 60, 2) := by decide +kernel
theorem dX6_meet_41 : decode cX6_meet 41 = .ok (.if_icmp .gt 48, 3) := by decide +kernel
theorem dX6_meet_44 : decode cX6_meet 44 = .ok (.aload_n 3, 1) := by decide +kernel
theorem dX6_meet_45 : decode cX6_meet 45 = .ok (.iload_n 1, 1) := by decide +kernel
theorem dX6_meet_46 : decode cX6_meet 46 = .ok (.invokevirtual 215, 3) := by decide +kernel
theorem dX6_meet_49 : decode cX6_meet 49 = .ok (.ifCond .eq 29, 3) := by decide +kernel
theorem dX6_meet_52 : decode cX6_meet 52 = .ok (.aload_n 3, 1) := by decide +kernel
theorem dX6_meet_53 : decode cX6_meet 53 = .ok (.iload_n 2, 1) := by decide +kernel
theorem dX6_meet_54 : decode cX6_meet 54 = .ok (.invokevirtual 215, 3) := by decide +kernel
theorem dX6_meet_57 : decode cX6_meet 57 = .ok (.ifCond .eq 21, 3) := by decide +kernel
theorem dX6_meet_60 : decode cX6_meet 60 = .ok (.aload_n 3, 1) := by decide +kernel
theorem dX6_meet_61 : decode cX6_meet 61 = .ok (.getfield 206, 3) := by decide +kernel
theorem dX6_meet_64 : decode cX6_meet 64 = .ok (.iload_n 1, 1) := by decide +kernel
theorem dX6_meet_65 : decode cX6_meet 65 = .ok (.iaload, 1) := by decide +kernel
theorem dX6_meet_66 : decode cX6_meet 66 = .ok (.aload_n 3, 1) := by decide +kernel
theorem dX6_meet_67 : decode cX6_meet 67 = .ok (.getfield 206, 3) := by decide +kernel
theorem dX6_meet_70 : decode cX6_meet 70 = .ok (.iload_n 2, 1) := by decide +kernel
theorem dX6_meet_71 : decode cX6_meet 71 = .ok (.iaload, 1) := by decide +kernel
theorem dX6_meet_72 : decode cX6_meet 72 = .ok (.if_icmp .ne 6, 3) := by decide +kernel
theorem dX6_meet_75 : decode cX6_meet 75 = .ok (.iload 4, 2) := by decide +kernel
theorem dX6_meet_77 : decode cX6_meet 77 = .ok (.ireturn, 1) := by decide +kernel
theorem dX6_meet_78 : decode cX6_meet 78 = .ok (.aload_n 3, 1) := by decide +kernel
theorem dX6_meet_79 : decode cX6_meet 79 = .ok (.iconst 1, 1) := by decide +kernel
theorem dX6_meet_80 : decode cX6_meet 80 = .ok (.invokevirtual 189, 3) := by decide +kernel
theorem dX6_meet_83 : decode cX6_meet 83 = .ok (.iinc 4 1, 3) := by decide +kernel
theorem dX6_meet_86 : decode cX6_meet 86 = .ok (.goto (-49), 3) := by decide +kernel
theorem dX6_meet_89 : decode cX6_meet 89 = .ok (.bipush (-4), 2) := by decide +kernel
theorem dX6_meet_91 : decode cX6_meet 91 = .ok (.ireturn, 1) := by decide +kernel
theorem dX6_pack_0 : decode cX6_pack 0 = .ok (.aload_n 0, 1) := by decide +kernel
theorem dX6_pack_1 : decode cX6_pack 1 = .ok (.getfield 10, 3) := by decide +kernel
theorem dX6_pack_4 : decode cX6_pack 4 = .ok (.iload_n 1, 1) := by decide +kernel
theorem dX6_pack_5 : decode cX6_pack 5 = .ok (.invokevirtual 122, 3) := by decide +kernel
theorem dX6_pack_8 : decode cX6_pack 8 = .ok (.ifCond .eq 12, 3) := by decide +kernel
theorem dX6_pack_11 : decode cX6_pack 11 = .ok (.iload_n 2, 1) := by decide +kernel
theorem dX6_pack_12 : decode cX6_pack 12 = .ok (.iconst 0, 1) := by decide +kernel
theorem dX6_pack_13 : decode cX6_pack 13 = .ok (.iconst 2, 1) := by decide +kernel
theorem dX6_pack_14 : decode cX6_pack 14 = .ok (.invokestatic 51, 3) := by decide +kernel
theorem dX6_pack_17 : decode cX6_pack 17 = .ok (.ifCond .ne 5, 3) := by decide +kernel
theorem dX6_pack_20 : decode cX6_pack 20 = .ok (.iconst (-1), 1) := by decide +kernel
theorem dX6_pack_21 : decode cX6_pack 21 = .ok (.ireturn, 1) := by decide +kernel
theorem dX6_pack_22 : decode cX6_pack 22 = .ok (.aload_n 0, 1) := by decide +kernel
theorem dX6_pack_23 : decode cX6_pack 23 = .ok (.iload_n 1, 1) := by decide +kernel
theorem dX6_pack_24 : decode cX6_pack 24 = .ok (.invokevirtual 218, 3) := by decide +kernel
theorem dX6_pack_27 : decode cX6_pack 27 = .ok (.istore_n 3, 1) := by decide +kernel
theorem dX6_pack_28 : decode cX6_pack 28 = .ok (.iload_n 2, 1) := by decide +kernel
theorem dX6_pack_29 : decode cX6_pack 29 = .ok (.lookupswitch 38 #[(0, 27), (1, 29)], 27) := by decide +kernel
theorem dX6_pack_56 : decode cX6_pack 56 = .ok (.iload_n 3, 1) := by decide +kernel
theorem dX6_pack_57 : decode cX6_pack 57 = .ok (.ireturn, 1) := by decide +kernel
theorem dX6_pack_58 : decode cX6_pack 58 = .ok (.aload_n 0, 1) := by decide +kernel
theorem dX6_pack_59 : decode cX6_pack 59 = .ok (.getfield 10, 3) := by decide +kernel
theorem dX6_pack_62 : decode cX6_pack 62 = .ok (.iload_n 3, 1) := by decide +kernel
theorem dX6_pack_63 : decode cX6_pack 63 = .ok (.invokevirtual 221, 3) := by decide +kernel
theorem dX6_pack_66 : decode cX6_pack 66 = .ok (.ireturn, 1) := by decide +kernel
theorem dX6_pack_67 : decode cX6_pack 67 = .ok (.aload_n 0, 1) := by decide +kernel
theorem dX6_pack_68 : decode cX6_pack 68 = .ok (.getfield 10, 3) := by decide +kernel
theorem dX6_pack_71 : decode cX6_pack 71 = .ok (.iload_n 3, 1) := by decide +kernel
theorem dX6_pack_72 : decode cX6_pack 72 = .ok (.invokevirtual 224, 3) := by decide +kernel
theorem dX6_pack_75 : decode cX6_pack 75 = .ok (.ireturn, 1) := by decide +kernel
theorem dX6_need_0 : decode cX6_need 0 = .ok (.aload_n 0, 1) := by decide +kernel
theorem dX6_need_1 : decode cX6_need 1 = .ok (.getfield 10, 3) := by decide +kernel
theorem dX6_need_4 : decode cX6_need 4 = .ok (.iload_n 1, 1) := by decide +kernel
theorem dX6_need_5 : decode cX6_need 5 = .ok (.invokevirtual 122, 3) := by decide +kernel
theorem dX6_need_8 : decode cX6_need 8 = .ok (.ifCond .eq 10, 3) := by decide +kernel
theorem dX6_need_11 : decode cX6_need 11 = .ok (.iload_n 2, 1) := by decide +kernel
theorem dX6_need_12 : decode cX6_need 12 = .ok (.invokestatic 193, 3) := by decide +kernel
theorem dX6_need_15 : decode cX6_need 15 = .ok (.ifCond .ne 5, 3) := by decide +kernel
theorem dX6_need_18 : decode cX6_need 18 = .ok (.iconst (-1), 1) := by decide +kernel
theorem dX6_need_19 : decode cX6_need 19 = .ok (.ireturn, 1) := by decide +kernel
theorem dX6_need_20 : decode cX6_need 20 = .ok (.iconst 0, 1) := by decide +kernel
theorem dX6_need_21 : decode cX6_need 21 = .ok (.istore_n 3, 1) := by decide +kernel
theorem dX6_need_22 : decode cX6_need 22 = .ok (.iload_n 3, 1) := by decide +kernel
theorem dX6_need_23 : decode cX6_need 23 = .ok (.bipush 40, 2) := by decide +kernel
theorem dX6_need_25 : decode cX6_need 25 = .ok (.if_icmp .gt 59, 3) := by decide +kernel
theorem dX6_need_28 : decode cX6_need 28 = .ok (.aload_n 0, 1) := by decide +kernel
theorem dX6_need_29 : decode cX6_need 29 = .ok (.invokevirtual 196, 3) := by decide +kernel
theorem dX6_need_32 : decode cX6_need 32 = .ok (.astore 4, 2) := by decide +kernel
theorem dX6_need_34 : decode cX6_need 34 = .ok (.aload 4, 2) := by decide +kernel
theorem dX6_need_36 : decode cX6_need 36 = .ok (.getfield 209, 3) := by decide +kernel
theorem dX6_need_39 : decode cX6_need 39 = .ok (.iload_n 1, 1) := by decide +kernel
theorem dX6_need_40 : decode cX6_need 40 = .ok (.iload_n 3, 1) := by decide +kernel
theorem dX6_need_41 : decode cX6_need 41 = .ok (.iastore, 1) := by decide +kernel
theorem dX6_need_42 : decode cX6_need 42 = .ok (.aload 4, 2) := by decide +kernel
theorem dX6_need_44 : decode cX6_need 44 = .ok (.dup, 1) := by decide +kernel
theorem dX6_need_45 : decode cX6_need 45 = .ok (.getfield 116, 3) := by decide +kernel
theorem dX6_need_48 : decode cX6_need 48 = .ok (.aload 4, 2) := by decide +kernel
theorem dX6_need_50 : decode cX6_need 50 = .ok (.iload_n 1, 1) := by decide +kernel
theorem dX6_need_51 : decode cX6_need 51 = .ok (.invokevirtual 129, 3) := by decide +kernel
theorem dX6_need_54 : decode cX6_need 54 = .ok (.aload 4, 2) := by decide +kernel
theorem dX6_need_56 : decode cX6_need 56 = .ok (.getfield 119, 3) := by decide +kernel
theorem dX6_need_59 : decode cX6_need 59 = .ok (.iconst (-1), 1) := by decide +kernel
theorem dX6_need_60 : decode cX6_need 60 = .ok (.ixor, 1) := by decide +kernel
theorem dX6_need_61 : decode cX6_need 61 = .ok (.iand, 1) := by decide +kernel
theorem dX6_need_62 : decode cX6_need 62 = .ok (.ior, 1) := by decide +kernel
theorem dX6_need_63 : decode cX6_need 63 = .ok (.putfield 116, 3) := by decide +kernel
theorem dX6_need_66 : decode cX6_need 66 = .ok (.aload 4, 2) := by decide +kernel
theorem dX6_need_68 : decode cX6_need 68 = .ok (.iload_n 1, 1) := by decide +kernel
theorem dX6_need_69 : decode cX6_need 69 = .ok (.iload_n 2, 1) := by decide +kernel
theorem dX6_need_70 : decode cX6_need 70 = .ok (.invokestatic 227, 3) := by decide +kernel
theorem dX6_need_73 : decode cX6_need 73 = .ok (.ifCond .eq 5, 3) := by decide +kernel
theorem dX6_need_76 : decode cX6_need 76 = .ok (.iload_n 3, 1) := by decide +kernel
theorem dX6_need_77 : decode cX6_need 77 = .ok (.ireturn, 1) := by decide +kernel
theorem dX6_need_78 : decode cX6_need 78 = .ok (.iinc 3 1, 3) := by decide +kernel
theorem dX6_need_81 : decode cX6_need 81 = .ok (.goto (-59), 3) := by decide +kernel
theorem dX6_need_84 : decode cX6_need 84 = .ok (.bipush (-4), 2) := by decide +kernel
theorem dX6_need_86 : decode cX6_need 86 = .ok (.ireturn, 1) := by decide +kernel
theorem dX6_high_0 : decode cX6_high 0 = .ok (.aload_n 0, 1) := by decide +kernel
theorem dX6_high_1 : decode cX6_high 1 = .ok (.getfield 10, 3) := by decide +kernel
theorem dX6_high_4 : decode cX6_high 4 = .ok (.iload_n 1, 1) := by decide +kernel
theorem dX6_high_5 : decode cX6_high 5 = .ok (.invokevirtual 122, 3) := by decide +kernel
theorem dX6_high_8 : decode cX6_high 8 = .ok (.ifCond .eq 10, 3) := by decide +kernel
theorem dX6_high_11 : decode cX6_high 11 = .ok (.iload_n 2, 1) := by decide +kernel
theorem dX6_high_12 : decode cX6_high 12 = .ok (.invokestatic 193, 3) := by decide +kernel
theorem dX6_high_15 : decode cX6_high 15 = .ok (.ifCond .ne 5, 3) := by decide +kernel
theorem dX6_high_18 : decode cX6_high 18 = .ok (.iconst (-1), 1) := by decide +kernel
theorem dX6_high_19 : decode cX6_high 19 = .ok (.ireturn, 1) := by decide +kernel
theorem dX6_high_20 : decode cX6_high 20 = .ok (.iconst 0, 1) := by decide +kernel
theorem dX6_high_21 : decode cX6_high 21 = .ok (.istore_n 3, 1) := by decide +kernel
theorem dX6_high_22 : decode cX6_high 22 = .ok (.iload_n 3, 1) := by decide +kernel
theorem dX6_high_23 : decode cX6_high 23 = .ok (.bipush 20, 2) := by decide +kernel
theorem dX6_high_25 : decode cX6_high 25 = .ok (.if_icmp .gt 35, 3) := by decide +kernel
theorem dX6_high_28 : decode cX6_high 28 = .ok (.aload_n 0, 1) := by decide +kernel
theorem dX6_high_29 : decode cX6_high 29 = .ok (.invokevirtual 196, 3) := by decide +kernel
theorem dX6_high_32 : decode cX6_high 32 = .ok (.astore 4, 2) := by decide +kernel
theorem dX6_high_34 : decode cX6_high 34 = .ok (.aload 4, 2) := by decide +kernel
theorem dX6_high_36 : decode cX6_high 36 = .ok (.getfield 231, 3) := by decide +kernel
theorem dX6_high_39 : decode cX6_high 39 = .ok (.iload_n 1, 1) := by decide +kernel
theorem dX6_high_40 : decode cX6_high 40 = .ok (.iload_n 3, 1) := by decide +kernel
theorem dX6_high_41 : decode cX6_high 41 = .ok (.iastore, 1) := by decide +kernel
theorem dX6_high_42 : decode cX6_high 42 = .ok (.aload 4, 2) := by decide +kernel
theorem dX6_high_44 : decode cX6_high 44 = .ok (.iload_n 1, 1) := by decide +kernel
theorem dX6_high_45 : decode cX6_high 45 = .ok (.iload_n 2, 1) := by decide +kernel
theorem dX6_high_46 : decode cX6_high 46 = .ok (.invokestatic 227, 3) := by decide +kernel
theorem dX6_high_49 : decode cX6_high 49 = .ok (.ifCond .eq 5, 3) := by decide +kernel
theorem dX6_high_52 : decode cX6_high 52 = .ok (.iload_n 3, 1) := by decide +kernel
theorem dX6_high_53 : decode cX6_high 53 = .ok (.ireturn, 1) := by decide +kernel
theorem dX6_high_54 : decode cX6_high 54 = .ok (.iinc 3 1, 3) := by decide +kernel
theorem dX6_high_57 : decode cX6_high 57 = .ok (.goto (-35), 3) := by decide +kernel
theorem dX6_high_60 : decode cX6_high 60 = .ok (.bipush (-4), 2) := by decide +kernel
theorem dX6_high_62 : decode cX6_high 62 = .ok (.ireturn, 1) := by decide +kernel
theorem dX6_leak_0 : decode cX6_leak 0 = .ok (.aload_n 0, 1) := by decide +kernel
theorem dX6_leak_1 : decode cX6_leak 1 = .ok (.getfield 10, 3) := by decide +kernel
theorem dX6_leak_4 : decode cX6_leak 4 = .ok (.iload_n 1, 1) := by decide +kernel
theorem dX6_leak_5 : decode cX6_leak 5 = .ok (.invokevirtual 122, 3) := by decide +kernel
theorem dX6_leak_8 : decode cX6_leak 8 = .ok (.ifCond .eq 10, 3) := by decide +kernel
theorem dX6_leak_11 : decode cX6_leak 11 = .ok (.iload_n 2, 1) := by decide +kernel
theorem dX6_leak_12 : decode cX6_leak 12 = .ok (.invokestatic 193, 3) := by decide +kernel
theorem dX6_leak_15 : decode cX6_leak 15 = .ok (.ifCond .ne 5, 3) := by decide +kernel
theorem dX6_leak_18 : decode cX6_leak 18 = .ok (.iconst (-1), 1) := by decide +kernel
theorem dX6_leak_19 : decode cX6_leak 19 = .ok (.ireturn, 1) := by decide +kernel
theorem dX6_leak_20 : decode cX6_leak 20 = .ok (.aload_n 0, 1) := by decide +kernel
theorem dX6_leak_21 : decode cX6_leak 21 = .ok (.invokevirtual 196, 3) := by decide +kernel
theorem dX6_leak_24 : decode cX6_leak 24 = .ok (.iload_n 2, 1) := by decide +kernel
theorem dX6_leak_25 : decode cX6_leak 25 = .ok (.invokestatic 234, 3) := by decide +kernel
theorem dX6_leak_28 : decode cX6_leak 28 = .ok (.istore_n 3, 1) := by decide +kernel
theorem dX6_leak_29 : decode cX6_leak 29 = .ok (.iconst 3, 1) := by decide +kernel
theorem dX6_leak_30 : decode cX6_leak 30 = .ok (.istore 4, 2) := by decide +kernel
theorem dX6_leak_32 : decode cX6_leak 32 = .ok (.iload 4, 2) := by decide +kernel
theorem dX6_leak_34 : decode cX6_leak 34 = .ok (.aload_n 0, 1) := by decide +kernel
theorem dX6_leak_35 : decode cX6_leak 35 = .ok (.getfield 10, 3) := by decide +kernel
theorem dX6_leak_38 : decode cX6_leak 38 = .ok (.getfield 238, 3) := by decide +kernel
theorem dX6_leak_41 : decode cX6_leak 41 = .ok (.iload_n 1, 1) := by decide +kernel
theorem dX6_leak_42 : decode cX6_leak 42 = .ok (.iaload, 1) := by decide +kernel
theorem dX6_leak_43 : decode cX6_leak 43 = .ok (.if_icmp .le 37, 3) := by decide +kernel
theorem dX6_leak_46 : decode cX6_leak 46 = .ok (.aload_n 0, 1) := by decide +kernel
theorem dX6_leak_47 : decode cX6_leak 47 = .ok (.invokevirtual 196, 3) := by decide +kernel
theorem dX6_leak_50 : decode cX6_leak 50 = .ok (.astore 5, 2) := by decide +kernel
theorem dX6_leak_52 : decode cX6_leak 52 = .ok (.aload 5, 2) := by decide +kernel
theorem dX6_leak_54 : decode cX6_leak 54 = .ok (.getfield 238, 3) := by decide +kernel
theorem dX6_leak_57 : decode cX6_leak 57 = .ok (.iload_n 1, 1) := by decide +kernel
theorem dX6_leak_58 : decode cX6_leak 58 = .ok (.iload 4, 2) := by decide +kernel
theorem dX6_leak_60 : decode cX6_leak 60 = .ok (.iastore, 1) := by decide +kernel
theorem dX6_leak_61 : decode cX6_leak 61 = .ok (.aload 5, 2) := by decide +kernel
theorem dX6_leak_63 : decode cX6_leak 63 = .ok (.iload_n 2, 1) := by decide +kernel
theorem dX6_leak_64 : decode cX6_leak 64 = .ok (.invokestatic 234, 3) := by decide +kernel
theorem dX6_leak_67 : decode cX6_leak 67 = .ok (.iload_n 3, 1) := by decide +kernel
theorem dX6_leak_68 : decode cX6_leak 68 = .ok (.if_icmp .gt 6, 3) := by decide +kernel
theorem dX6_leak_71 : decode cX6_leak 71 = .ok (.iload 4, 2) := by decide +kernel
theorem dX6_leak_73 : decode cX6_leak 73 = .ok (.ireturn, 1) := by decide +kernel
theorem dX6_leak_74 : decode cX6_leak 74 = .ok (.iinc 4 (-1), 3) := by decide +kernel
theorem dX6_leak_77 : decode cX6_leak 77 = .ok (.goto (-45), 3) := by decide +kernel
theorem dX6_leak_80 : decode cX6_leak 80 = .ok (.aload_n 0, 1) := by decide +kernel
theorem dX6_leak_81 : decode cX6_leak 81 = .ok (.getfield 10, 3) := by decide +kernel
theorem dX6_leak_84 : decode cX6_leak 84 = .ok (.getfield 238, 3) := by decide +kernel
theorem dX6_leak_87 : decode cX6_leak 87 = .ok (.iload_n 1, 1) := by decide +kernel
theorem dX6_leak_88 : decode cX6_leak 88 = .ok (.iaload, 1) := by decide +kernel
theorem dX6_leak_89 : decode cX6_leak 89 = .ok (.ireturn, 1) := by decide +kernel
theorem dX6_swap_0 : decode cX6_swap 0 = .ok (.iload_n 1, 1) := by decide +kernel
theorem dX6_swap_1 : decode cX6_swap 1 = .ok (.invokestatic 193, 3) := by decide +kernel
theorem dX6_swap_4 : decode cX6_swap 4 = .ok (.ifCond .eq 12, 3) := by decide +kernel
theorem dX6_swap_7 : decode cX6_swap 7 = .ok (.iload_n 2, 1) := by decide +kernel
theorem dX6_swap_8 : decode cX6_swap 8 = .ok (.iconst 0, 1) := by decide +kernel
theorem dX6_swap_9 : decode cX6_swap 9 = .ok (.iconst 1, 1) := by decide +kernel
theorem dX6_swap_10 : decode cX6_swap 10 = .ok (.invokestatic 51, 3) := by decide +kernel
theorem dX6_swap_13 : decode cX6_swap 13 = .ok (.ifCond .ne 5, 3) := by decide +kernel
theorem dX6_swap_16 : decode cX6_swap 16 = .ok (.iconst (-1), 1) := by decide +kernel
theorem dX6_swap_17 : decode cX6_swap 17 = .ok (.ireturn, 1) := by decide +kernel
theorem dX6_swap_18 : decode cX6_swap 18 = .ok (.aload_n 0, 1) := by decide +kernel
theorem dX6_swap_19 : decode cX6_swap 19 = .ok (.invokevirtual 196, 3) := by decide +kernel
theorem dX6_swap_22 : decode cX6_swap 22 = .ok (.iload_n 1, 1) := by decide +kernel
theorem dX6_swap_23 : decode cX6_swap 23 = .ok (.invokestatic 234, 3) := by decide +kernel
theorem dX6_swap_26 : decode cX6_swap 26 = .ok (.istore_n 3, 1) := by decide +kernel
theorem dX6_swap_27 : decode cX6_swap 27 = .ok (.bipush (-4), 2) := by decide +kernel
theorem dX6_swap_29 : decode cX6_swap 29 = .ok (.istore 4, 2) := by decide +kernel
theorem dX6_swap_31 : decode cX6_swap 31 = .ok (.iconst 0, 1) := by decide +kernel
theorem dX6_swap_32 : decode cX6_swap 32 = .ok (.istore 5, 2) := by decide +kernel
theorem dX6_swap_34 : decode cX6_swap 34 = .ok (.iload 5, 2) := by decide +kernel
theorem dX6_swap_36 : decode cX6_swap 36 = .ok (.aload_n 0, 1) := by decide +kernel
theorem dX6_swap_37 : decode cX6_swap 37 = .ok (.getfield 10, 3) := by decide +kernel
theorem dX6_swap_40 : decode cX6_swap 40 = .ok (.getfield 98, 3) := by decide +kernel
theorem dX6_swap_43 : decode cX6_swap 43 = .ok (.if_icmp .ge 89, 3) := by decide +kernel
theorem dX6_swap_46 : decode cX6_swap 46 = .ok (.iload 5, 2) := by decide +kernel
theorem dX6_swap_48 : decode cX6_swap 48 = .ok (.iconst 1, 1) := by decide +kernel
theorem dX6_swap_49 : decode cX6_swap 49 = .ok (.iadd, 1) := by decide +kernel
theorem dX6_swap_50 : decode cX6_swap 50 = .ok (.istore 6, 2) := by decide +kernel
theorem dX6_swap_52 : decode cX6_swap 52 = .ok (.iload 6, 2) := by decide +kernel
theorem dX6_swap_54 : decode cX6_swap 54 = .ok (.aload_n 0, 1) := by decide +kernel
theorem dX6_swap_55 : decode cX6_swap 55 = .ok (.getfield 10, 3) := by decide +kernel
theorem dX6_swap_58 : decode cX6_swap 58 = .ok (.getfield 98, 3) := by decide +kernel
theorem dX6_swap_61 : decode cX6_swap 61 = .ok (.if_icmp .ge 65, 3) := by decide +kernel
theorem dX6_swap_64 : decode cX6_swap 64 = .ok (.aload_n 0, 1) := by decide +kernel
theorem dX6_swap_65 : decode cX6_swap 65 = .ok (.getfield 10, 3) := by decide +kernel
theorem dX6_swap_68 : decode cX6_swap 68 = .ok (.iload 5, 2) := by decide +kernel
theorem dX6_swap_70 : decode cX6_swap 70 = .ok (.iload 6, 2) := by decide +kernel
theorem dX6_swap_72 : decode cX6_swap 72 = .ok (.invokevirtual 241, 3) := by decide +kernel
theorem dX6_swap_75 : decode cX6_swap 75 = .ok (.ifCond .eq 45, 3) := by decide +kernel
theorem dX6_swap_78 : decode cX6_swap 78 = .ok (.aload_n 0, 1) := by decide +kernel
theorem dX6_swap_79 : decode cX6_swap 79 = .ok (.invokevirtual 196, 3) := by decide +kernel
theorem dX6_swap_82 : decode cX6_swap 82 = .ok (.astore 7, 2) := by decide +kernel
theorem dX6_swap_84 : decode cX6_swap 84 = .ok (.aload 7, 2) := by decide +kernel
theorem dX6_swap_86 : decode cX6_swap 86 = .ok (.iload 5, 2) := by decide +kernel
theorem dX6_swap_88 : decode cX6_swap 88 = .ok (.iload 6, 2) := by decide +kernel
theorem dX6_swap_90 : decode cX6_swap 90 = .ok (.invokevirtual 245, 3) := by decide +kernel
theorem dX6_swap_93 : decode cX6_swap 93 = .ok (.aload 7, 2) := by decide +kernel
theorem dX6_swap_95 : decode cX6_swap 95 = .ok (.iload_n 1, 1) := by decide +kernel
theorem dX6_swap_96 : decode cX6_swap 96 = .ok (.invokestatic 234, 3) := by decide +kernel
theorem dX6_swap_99 : decode cX6_swap 99 = .ok (.istore 8, 2) := by decide +kernel
theorem dX6_swap_101 : decode cX6_swap 101 = .ok (.iload 8, 2) := by decide +kernel
theorem dX6_swap_103 : decode cX6_swap 103 = .ok (.iload_n 3, 1) := by decide +kernel
theorem dX6_swap_104 : decode cX6_swap 104 = .ok (.if_icmp .ge 16, 3) := by decide +kernel
theorem dX6_swap_107 : decode cX6_swap 107 = .ok (.iload 8, 2) := by decide +kernel
theorem dX6_swap_109 : decode cX6_swap 109 = .ok (.istore_n 3, 1) := by decide +kernel
theorem dX6_swap_110 : decode cX6_swap 110 = .ok (.bipush 10, 2) := by decide +kernel
theorem dX6_swap_112 : decode cX6_swap 112 = .ok (.iload 5, 2) := by decide +kernel
theorem dX6_swap_114 : decode cX6_swap 114 = .ok (.imul, 1) := by decide +kernel
theorem dX6_swap_115 : decode cX6_swap 115 = .ok (.iload 6, 2) := by decide +kernel
theorem dX6_swap_117 : decode cX6_swap 117 = .ok (.iadd, 1) := by decide +kernel
theorem dX6_swap_118 : decode cX6_swap 118 = .ok (.istore 4, 2) := by decide +kernel
theorem dX6_swap_120 : decode cX6_swap 120 = .ok (.iinc 6 1, 3) := by decide +kernel
theorem dX6_swap_123 : decode cX6_swap 123 = .ok (.goto (-71), 3) := by decide +kernel
theorem dX6_swap_126 : decode cX6_swap 126 = .ok (.iinc 5 1, 3) := by decide +kernel
theorem dX6_swap_129 : decode cX6_swap 129 = .ok (.goto (-95), 3) := by decide +kernel
theorem dX6_swap_132 : decode cX6_swap 132 = .ok (.aload_n 0, 1) := by decide +kernel
theorem dX6_swap_133 : decode cX6_swap 133 = .ok (.iload 4, 2) := by decide +kernel
theorem dX6_swap_135 : decode cX6_swap 135 = .ok (.iload_n 3, 1) := by decide +kernel
theorem dX6_swap_136 : decode cX6_swap 136 = .ok (.iload_n 2, 1) := by decide +kernel
theorem dX6_swap_137 : decode cX6_swap 137 = .ok (.invokevirtual 249, 3) := by decide +kernel
theorem dX6_swap_140 : decode cX6_swap 140 = .ok (.ireturn, 1) := by decide +kernel
theorem dX6_save_0 : decode cX6_save 0 = .ok (.iload_n 1, 1) := by decide +kernel
theorem dX6_save_1 : decode cX6_save 1 = .ok (.invokestatic 193, 3) := by decide +kernel
theorem dX6_save_4 : decode cX6_save 4 = .ok (.ifCond .eq 12, 3) := by decide +kernel
theorem dX6_save_7 : decode cX6_save 7 = .ok (.iload_n 2, 1) := by decide +kernel
theorem dX6_save_8 : decode cX6_save 8 = .ok (.iconst 0, 1) := by decide +kernel
theorem dX6_save_9 : decode cX6_save 9 = .ok (.iconst 1, 1) := by decide +kernel
theorem dX6_save_10 : decode cX6_save 10 = .ok (.invokestatic 51, 3) := by decide +kernel
theorem dX6_save_13 : decode cX6_save 13 = .ok (.ifCond .ne 5, 3) := by decide +kernel
theorem dX6_save_16 : decode cX6_save 16 = .ok (.iconst (-1), 1) := by decide +kernel
theorem dX6_save_17 : decode cX6_save 17 = .ok (.ireturn, 1) := by decide +kernel
theorem dX6_save_18 : decode cX6_save 18 = .ok (.aload_n 0, 1) := by decide +kernel
theorem dX6_save_19 : decode cX6_save 19 = .ok (.invokevirtual 196, 3) := by decide +kernel
theorem dX6_save_22 : decode cX6_save 22 = .ok (.iload_n 1, 1) := by decide +kernel
theorem dX6_save_23 : decode cX6_save 23 = .ok (.invokestatic 234, 3) := by decide +kernel
theorem dX6_save_26 : decode cX6_save 26 = .ok (.istore_n 3, 1) := by decide +kernel
theorem dX6_save_27 : decode cX6_save 27 = .ok (.bipush (-4), 2) := by decide +kernel
theorem dX6_save_29 : decode cX6_save 29 = .ok (.istore 4, 2) := by decide +kernel
theorem dX6_save_31 : decode cX6_save 31 = .ok (.iconst 0, 1) := by decide +kernel
theorem dX6_save_32 : decode cX6_save 32 = .ok (.istore 5, 2) := by decide +kernel
theorem dX6_save_34 : decode cX6_save 34 = .ok (.iload 5, 2) := by decide +kernel
theorem dX6_save_36 : decode cX6_save 36 = .ok (.aload_n 0, 1) := by decide +kernel
theorem dX6_save_37 : decode cX6_save 37 = .ok (.getfield 10, 3) := by decide +kernel
theorem dX6_save_40 : decode cX6_save 40 = .ok (.getfield 98, 3) := by decide +kernel
theorem dX6_save_43 : decode cX6_save 43 = .ok (.if_icmp .ge 46, 3) := by decide +kernel
theorem dX6_save_46 : decode cX6_save 46 = .ok (.aload_n 0, 1) := by decide +kernel
theorem dX6_save_47 : decode cX6_save 47 = .ok (.invokevirtual 196, 3) := by decide +kernel
theorem dX6_save_50 : decode cX6_save 50 = .ok (.astore 6, 2) := by decide +kernel
theorem dX6_save_52 : decode cX6_save 52 = .ok (.aload 6, 2) := by decide +kernel
theorem dX6_save_54 : decode cX6_save 54 = .ok (.iload 5, 2) := by decide +kernel
theorem dX6_save_56 : decode cX6_save 56 = .ok (.invokevirtual 183, 3) := by decide +kernel
theorem dX6_save_59 : decode cX6_save 59 = .ok (.ifCond .lt 24, 3) := by decide +kernel
theorem dX6_save_62 : decode cX6_save 62 = .ok (.aload 6, 2) := by decide +kernel
theorem dX6_save_64 : decode cX6_save 64 = .ok (.iload_n 1, 1) := by decide +kernel
theorem dX6_save_65 : decode cX6_save 65 = .ok (.invokestatic 234, 3) := by decide +kernel
theorem dX6_save_68 : decode cX6_save 68 = .ok (.istore 7, 2) := by decide +kernel
theorem dX6_save_70 : decode cX6_save 70 = .ok (.iload 7, 2) := by decide +kernel
theorem dX6_save_72 : decode cX6_save 72 = .ok (.iload_n 3, 1) := by decide +kernel
theorem dX6_save_73 : decode cX6_save 73 = .ok (.if_icmp .ge 10, 3) := by decide +kernel
theorem dX6_save_76 : decode cX6_save 76 = .ok (.iload 7, 2) := by decide +kernel
theorem dX6_save_78 : decode cX6_save 78 = .ok (.istore_n 3, 1) := by decide +kernel
theorem dX6_save_79 : decode cX6_save 79 = .ok (.iload 5, 2) := by decide +kernel
theorem dX6_save_81 : decode cX6_save 81 = .ok (.istore 4, 2) := by decide +kernel
theorem dX6_save_83 : decode cX6_save 83 = .ok (.iinc 5 1, 3) := by decide +kernel
theorem dX6_save_86 : decode cX6_save 86 = .ok (.goto (-52), 3) := by decide +kernel
theorem dX6_save_89 : decode cX6_save 89 = .ok (.aload_n 0, 1) := by decide +kernel
theorem dX6_save_90 : decode cX6_save 90 = .ok (.iload 4, 2) := by decide +kernel
theorem dX6_save_92 : decode cX6_save 92 = .ok (.iload_n 3, 1) := by decide +kernel
theorem dX6_save_93 : decode cX6_save 93 = .ok (.iload_n 2, 1) := by decide +kernel
theorem dX6_save_94 : decode cX6_save 94 = .ok (.invokevirtual 249, 3) := by decide +kernel
theorem dX6_save_97 : decode cX6_save 97 = .ok (.ireturn, 1) := by decide +kernel
theorem dX6_kind_0 : decode cX6_kind 0 = .ok (.aload_n 0, 1) := by decide +kernel
theorem dX6_kind_1 : decode cX6_kind 1 = .ok (.getfield 10, 3) := by decide +kernel
theorem dX6_kind_4 : decode cX6_kind 4 = .ok (.iload_n 1, 1) := by decide +kernel
theorem dX6_kind_5 : decode cX6_kind 5 = .ok (.invokevirtual 136, 3) := by decide +kernel
theorem dX6_kind_8 : decode cX6_kind 8 = .ok (.ifCond .eq 19, 3) := by decide +kernel
theorem dX6_kind_11 : decode cX6_kind 11 = .ok (.iload_n 2, 1) := by decide +kernel
theorem dX6_kind_12 : decode cX6_kind 12 = .ok (.invokestatic 193, 3) := by decide +kernel
theorem dX6_kind_15 : decode cX6_kind 15 = .ok (.ifCond .eq 12, 3) := by decide +kernel
theorem dX6_kind_18 : decode cX6_kind 18 = .ok (.iload_n 3, 1) := by decide +kernel
theorem dX6_kind_19 : decode cX6_kind 19 = .ok (.iconst 0, 1) := by decide +kernel
theorem dX6_kind_20 : decode cX6_kind 20 = .ok (.iconst 1, 1) := by decide +kernel
theorem dX6_kind_21 : decode cX6_kind 21 = .ok (.invokestatic 51, 3) := by decide +kernel
theorem dX6_kind_24 : decode cX6_kind 24 = .ok (.ifCond .ne 5, 3) := by decide +kernel
theorem dX6_kind_27 : decode cX6_kind 27 = .ok (.iconst (-1), 1) := by decide +kernel
theorem dX6_kind_28 : decode cX6_kind 28 = .ok (.ireturn, 1) := by decide +kernel
theorem dX6_kind_29 : decode cX6_kind 29 = .ok (.sipush 1000, 3) := by decide +kernel
theorem dX6_kind_32 : decode cX6_kind 32 = .ok (.istore 4, 2) := by decide +kernel
theorem dX6_kind_34 : decode cX6_kind 34 = .ok (.bipush (-4), 2) := by decide +kernel
theorem dX6_kind_36 : decode cX6_kind 36 = .ok (.istore 5, 2) := by decide +kernel
theorem dX6_kind_38 : decode cX6_kind 38 = .ok (.iconst 0, 1) := by decide +kernel
theorem dX6_kind_39 : decode cX6_kind 39 = .ok (.istore 6, 2) := by decide +kernel
theorem dX6_kind_41 : decode cX6_kind 41 = .ok (.iload 6, 2) := by decide +kernel
theorem dX6_kind_43 : decode cX6_kind 43 = .ok (.iconst 3, 1) := by decide +kernel
theorem dX6_kind_44 : decode cX6_kind 44 = .ok (.if_icmp .gt 47, 3) := by decide +kernel
theorem dX6_kind_47 : decode cX6_kind 47 = .ok (.aload_n 0, 1) := by decide +kernel
theorem dX6_kind_48 : decode cX6_kind 48 = .ok (.invokevirtual 196, 3) := by decide +kernel
theorem dX6_kind_51 : decode cX6_kind 51 = .ok (.astore 7, 2) := by decide +kernel
theorem dX6_kind_53 : decode cX6_kind 53 = .ok (.aload 7, 2) := by decide +kernel
theorem dX6_kind_55 : decode cX6_kind 55 = .ok (.getfield 139, 3) := by decide +kernel
theorem dX6_kind_58 : decode cX6_kind 58 = .ok (.iload_n 1, 1) := by decide +kernel
theorem dX6_kind_59 : decode cX6_kind 59 = .ok (.iload 6, 2) := by decide +kernel
theorem dX6_kind_61 : decode cX6_kind 61 = .ok (.iastore, 1) := by decide +kernel
theorem dX6_kind_62 : decode cX6_kind 62 = .ok (.aload 7, 2) := by decide +kernel
theorem dX6_kind_64 : decode cX6_kind 64 = .ok (.iload_n 2, 1) := by decide +kernel
theorem dX6_kind_65 : decode cX6_kind 65 = .ok (.invokestatic 234, 3) := by decide +kernel
theorem dX6_kind_68 : decode cX6_kind 68 = .ok (.istore 8, 2) := by decide +kernel
theorem dX6_kind_70 : decode cX6_kind 70 = .ok (.iload 8, 2) := by decide +kernel
theorem dX6_kind_72 : decode cX6_kind 72 = .ok (.iload 4, 2) := by decide +kernel
theorem dX6_kind_74 : decode cX6_kind 74 = .ok (.if_icmp .ge 11, 3) := by decide +kernel
theorem dX6_kind_77 : decode cX6_kind 77 = .ok (.iload 8, 2) := by decide +kernel
theorem dX6_kind_79 : decode cX6_kind 79 = .ok (.istore 4, 2) := by decide +kernel
theorem dX6_kind_81 : decode cX6_kind 81 = .ok (.iload 6, 2) := by decide +kernel
theorem dX6_kind_83 : decode cX6_kind 83 = .ok (.istore 5, 2) := by decide +kernel
theorem dX6_kind_85 : decode cX6_kind 85 = .ok (.iinc 6 1, 3) := by decide +kernel
theorem dX6_kind_88 : decode cX6_kind 88 = .ok (.goto (-47), 3) := by decide +kernel
theorem dX6_kind_91 : decode cX6_kind 91 = .ok (.aload_n 0, 1) := by decide +kernel
theorem dX6_kind_92 : decode cX6_kind 92 = .ok (.iload 5, 2) := by decide +kernel
theorem dX6_kind_94 : decode cX6_kind 94 = .ok (.iload 4, 2) := by decide +kernel
theorem dX6_kind_96 : decode cX6_kind 96 = .ok (.iload_n 3, 1) := by decide +kernel
theorem dX6_kind_97 : decode cX6_kind 97 = .ok (.invokevirtual 249, 3) := by decide +kernel
theorem dX6_kind_100 : decode cX6_kind 100 = .ok (.ireturn, 1) := by decide +kernel
theorem dX6_luck_0 : decode cX6_luck 0 = .ok (.iload_n 1, 1) := by decide +kernel
theorem dX6_luck_1 : decode cX6_luck 1 = .ok (.iconst 0, 1) := by decide +kernel
theorem dX6_luck_2 : decode cX6_luck 2 = .ok (.bipush 10, 2) := by decide +kernel
theorem dX6_luck_4 : decode cX6_luck 4 = .ok (.invokestatic 51, 3) := by decide +kernel
theorem dX6_luck_7 : decode cX6_luck 7 = .ok (.ifCond .eq 34, 3) := by decide +kernel
theorem dX6_luck_10 : decode cX6_luck 10 = .ok (.aload_n 0, 1) := by decide +kernel
theorem dX6_luck_11 : decode cX6_luck 11 = .ok (.getfield 10, 3) := by decide +kernel
theorem dX6_luck_14 : decode cX6_luck 14 = .ok (.iload_n 2, 1) := by decide +kernel
theorem dX6_luck_15 : decode cX6_luck 15 = .ok (.invokevirtual 136, 3) := by decide +kernel
theorem dX6_luck_18 : decode cX6_luck 18 = .ok (.ifCond .eq 23, 3) := by decide +kernel
theorem dX6_luck_21 : decode cX6_luck 21 = .ok (.iload_n 3, 1) := by decide +kernel
theorem dX6_luck_22 : decode cX6_luck 22 = .ok (.iconst 0, 1) := by decide +kernel
theorem dX6_luck_23 : decode cX6_luck 23 = .ok (.bipush 8, 2) := by decide +kernel
theorem dX6_luck_25 : decode cX6_luck 25 = .ok (.invokestatic 51, 3) := by decide +kernel
theorem dX6_luck_28 : decode cX6_luck 28 = .ok (.ifCond .eq 13, 3) := by decide +kernel
theorem dX6_luck_31 : decode cX6_luck 31 = .ok (.iload 4, 2) := by decide +kernel
theorem dX6_luck_33 : decode cX6_luck 33 = .ok (.iconst 0, 1) := by decide +kernel
theorem dX6_luck_34 : decode cX6_luck 34 = .ok (.iconst 1, 1) := by decide +kernel
theorem dX6_luck_35 : decode cX6_luck 35 = .ok (.invokestatic 51, 3) := by decide +kernel
theorem dX6_luck_38 : decode cX6_luck 38 = .ok (.ifCond .ne 7, 3) := by decide +kernel
theorem dX6_luck_41 : decode cX6_luck 41 = .ok (.ldc2_w 253, 3) := by decide +kernel
theorem dX6_luck_44 : decode cX6_luck 44 = .ok (.lreturn, 1) := by decide +kernel
theorem dX6_luck_45 : decode cX6_luck 45 = .ok (.lconst 0, 1) := by decide +kernel
theorem dX6_luck_46 : decode cX6_luck 46 = .ok (.lstore 5, 2) := by decide +kernel
theorem dX6_luck_48 : decode cX6_luck 48 = .ok (.iconst 0, 1) := by decide +kernel
theorem dX6_luck_49 : decode cX6_luck 49 = .ok (.istore 7, 2) := by decide +kernel
theorem dX6_luck_51 : decode cX6_luck 51 = .ok (.iload 7, 2) := by decide +kernel
theorem dX6_luck_53 : decode cX6_luck 53 = .ok (.iconst 1, 1) := by decide +kernel
theorem dX6_luck_54 : decode cX6_luck 54 = .ok (.iload_n 3, 1) := by decide +kernel
theorem dX6_luck_55 : decode cX6_luck 55 = .ok (.ishl, 1) := by decide +kernel
theorem dX6_luck_56 : decode cX6_luck 56 = .ok (.if_icmp .ge 46, 3) := by decide +kernel
theorem dX6_luck_59 : decode cX6_luck 59 = .ok (.iload 7, 2) := by decide +kernel
theorem dX6_luck_61 : decode cX6_luck 61 = .ok (.iload_n 1, 1) := by decide +kernel
theorem dX6_luck_62 : decode cX6_luck 62 = .ok (.iload_n 3, 1) := by decide +kernel
theorem dX6_luck_63 : decode cX6_luck 63 = .ok (.invokestatic 255, 3) := by decide +kernel
theorem dX6_luck_66 : decode cX6_luck 66 = .ok (.lstore 8, 2) := by decide +kernel
theorem dX6_luck_68 : decode cX6_luck 68 = .ok (.lload 8, 2) := by decide +kernel
theorem dX6_luck_70 : decode cX6_luck 70 = .ok (.lconst 0, 1) := by decide +kernel
theorem dX6_luck_71 : decode cX6_luck 71 = .ok (.lcmp, 1) := by decide +kernel
theorem dX6_luck_72 : decode cX6_luck 72 = .ok (.ifCond .le 24, 3) := by decide +kernel
theorem dX6_luck_75 : decode cX6_luck 75 = .ok (.aload_n 0, 1) := by decide +kernel
theorem dX6_luck_76 : decode cX6_luck 76 = .ok (.iload 7, 2) := by decide +kernel
theorem dX6_luck_78 : decode cX6_luck 78 = .ok (.iload_n 3, 1) := by decide +kernel
theorem dX6_luck_79 : decode cX6_luck 79 = .ok (.invokevirtual 259, 3) := by decide +kernel
theorem dX6_luck_82 : decode cX6_luck 82 = .ok (.iload_n 2, 1) := by decide +kernel
theorem dX6_luck_83 : decode cX6_luck 83 = .ok (.invokevirtual 212, 3) := by decide +kernel
theorem dX6_luck_86 : decode cX6_luck 86 = .ok (.ifCond .ne 10, 3) := by decide +kernel
theorem dX6_luck_89 : decode cX6_luck 89 = .ok (.lload 5, 2) := by decide +kernel
theorem dX6_luck_91 : decode cX6_luck 91 = .ok (.lload 8, 2) := by decide +kernel
theorem dX6_luck_93 : decode cX6_luck 93 = .ok (.ladd, 1) := by decide +kernel
theorem dX6_luck_94 : decode cX6_luck 94 = .ok (.lstore 5, 2) := by decide +kernel
theorem dX6_luck_96 : decode cX6_luck 96 = .ok (.iinc 7 1, 3) := by decide +kernel
theorem dX6_luck_99 : decode cX6_luck 99 = .ok (.goto (-48), 3) := by decide +kernel
theorem dX6_luck_102 : decode cX6_luck 102 = .ok (.lload 5, 2) := by decide +kernel
theorem dX6_luck_104 : decode cX6_luck 104 = .ok (.bipush 10, 2) := by decide +kernel
theorem dX6_luck_106 : decode cX6_luck 106 = .ok (.iload_n 3, 1) := by decide +kernel
theorem dX6_luck_107 : decode cX6_luck 107 = .ok (.invokestatic 263, 3) := by decide +kernel
theorem dX6_luck_110 : decode cX6_luck 110 = .ok (.iload 4, 2) := by decide +kernel
theorem dX6_luck_112 : decode cX6_luck 112 = .ok (.invokestatic 267, 3) := by decide +kernel
theorem dX6_luck_115 : decode cX6_luck 115 = .ok (.lreturn, 1) := by decide +kernel
theorem dX6_mean_0 : decode cX6_mean 0 = .ok (.iload_n 1, 1) := by decide +kernel
theorem dX6_mean_1 : decode cX6_mean 1 = .ok (.iconst 0, 1) := by decide +kernel
theorem dX6_mean_2 : decode cX6_mean 2 = .ok (.bipush 10, 2) := by decide +kernel
theorem dX6_mean_4 : decode cX6_mean 4 = .ok (.invokestatic 51, 3) := by decide +kernel
theorem dX6_mean_7 : decode cX6_mean 7 = .ok (.ifCond .eq 22, 3) := by decide +kernel
theorem dX6_mean_10 : decode cX6_mean 10 = .ok (.iload_n 2, 1) := by decide +kernel
theorem dX6_mean_11 : decode cX6_mean 11 = .ok (.iconst 0, 1) := by decide +kernel
theorem dX6_mean_12 : decode cX6_mean 12 = .ok (.bipush 8, 2) := by decide +kernel
theorem dX6_mean_14 : decode cX6_mean 14 = .ok (.invokestatic 51, 3) := by decide +kernel
theorem dX6_mean_17 : decode cX6_mean 17 = .ok (.ifCond .eq 12, 3) := by decide +kernel
theorem dX6_mean_20 : decode cX6_mean 20 = .ok (.iload_n 3, 1) := by decide +kernel
theorem dX6_mean_21 : decode cX6_mean 21 = .ok (.iconst 0, 1) := by decide +kernel
theorem dX6_mean_22 : decode cX6_mean 22 = .ok (.iconst 1, 1) := by decide +kernel
theorem dX6_mean_23 : decode cX6_mean 23 = .ok (.invokestatic 51, 3) := by decide +kernel
theorem dX6_mean_26 : decode cX6_mean 26 = .ok (.ifCond .ne 7, 3) := by decide +kernel
theorem dX6_mean_29 : decode cX6_mean 29 = .ok (.ldc2_w 253, 3) := by decide +kernel
theorem dX6_mean_32 : decode cX6_mean 32 = .ok (.lreturn, 1) := by decide +kernel
theorem dX6_mean_33 : decode cX6_mean 33 = .ok (.lconst 0, 1) := by decide +kernel
theorem dX6_mean_34 : decode cX6_mean 34 = .ok (.lstore 4, 2) := by decide +kernel
theorem dX6_mean_36 : decode cX6_mean 36 = .ok (.iconst 0, 1) := by decide +kernel
theorem dX6_mean_37 : decode cX6_mean 37 = .ok (.istore 6, 2) := by decide +kernel
theorem dX6_mean_39 : decode cX6_mean 39 = .ok (.iload 6, 2) := by decide +kernel
theorem dX6_mean_41 : decode cX6_mean 41 = .ok (.iconst 1, 1) := by decide +kernel
theorem dX6_mean_42 : decode cX6_mean 42 = .ok (.iload_n 2, 1) := by decide +kernel
theorem dX6_mean_43 : decode cX6_mean 43 = .ok (.ishl, 1) := by decide +kernel
theorem dX6_mean_44 : decode cX6_mean 44 = .ok (.if_icmp .ge 52, 3) := by decide +kernel
theorem dX6_mean_47 : decode cX6_mean 47 = .ok (.iload 6, 2) := by decide +kernel
theorem dX6_mean_49 : decode cX6_mean 49 = .ok (.iload_n 1, 1) := by decide +kernel
theorem dX6_mean_50 : decode cX6_mean 50 = .ok (.iload_n 2, 1) := by decide +kernel
theorem dX6_mean_51 : decode cX6_mean 51 = .ok (.invokestatic 255, 3) := by decide +kernel
theorem dX6_mean_54 : decode cX6_mean 54 = .ok (.lstore 7, 2) := by decide +kernel
theorem dX6_mean_56 : decode cX6_mean 56 = .ok (.lload 7, 2) := by decide +kernel
theorem dX6_mean_58 : decode cX6_mean 58 = .ok (.lconst 0, 1) := by decide +kernel
theorem dX6_mean_59 : decode cX6_mean 59 = .ok (.lcmp, 1) := by decide +kernel
theorem dX6_mean_60 : decode cX6_mean 60 = .ok (.ifCond .le 30, 3) := by decide +kernel
theorem dX6_mean_63 : decode cX6_mean 63 = .ok (.lload 4, 2) := by decide +kernel
theorem dX6_mean_65 : decode cX6_mean 65 = .ok (.lload 7, 2) := by decide +kernel
theorem dX6_mean_67 : decode cX6_mean 67 = .ok (.aload_n 0, 1) := by decide +kernel
theorem dX6_mean_68 : decode cX6_mean 68 = .ok (.iload 6, 2) := by decide +kernel
theorem dX6_mean_70 : decode cX6_mean 70 = .ok (.iload_n 2, 1) := by decide +kernel
theorem dX6_mean_71 : decode cX6_mean 71 = .ok (.invokevirtual 259, 3) := by decide +kernel
theorem dX6_mean_74 : decode cX6_mean 74 = .ok (.getfield 107, 3) := by decide +kernel
theorem dX6_mean_77 : decode cX6_mean 77 = .ok (.aload_n 0, 1) := by decide +kernel
theorem dX6_mean_78 : decode cX6_mean 78 = .ok (.getfield 10, 3) := by decide +kernel
theorem dX6_mean_81 : decode cX6_mean 81 = .ok (.getfield 107, 3) := by decide +kernel
theorem dX6_mean_84 : decode cX6_mean 84 = .ok (.isub, 1) := by decide +kernel
theorem dX6_mean_85 : decode cX6_mean 85 = .ok (.i2l, 1) := by decide +kernel
theorem dX6_mean_86 : decode cX6_mean 86 = .ok (.lmul, 1) := by decide +kernel
theorem dX6_mean_87 : decode cX6_mean 87 = .ok (.ladd, 1) := by decide +kernel
theorem dX6_mean_88 : decode cX6_mean 88 = .ok (.lstore 4, 2) := by decide +kernel
theorem dX6_mean_90 : decode cX6_mean 90 = .ok (.iinc 6 1, 3) := by decide +kernel
theorem dX6_mean_93 : decode cX6_mean 93 = .ok (.goto (-54), 3) := by decide +kernel
theorem dX6_mean_96 : decode cX6_mean 96 = .ok (.lload 4, 2) := by decide +kernel
theorem dX6_mean_98 : decode cX6_mean 98 = .ok (.bipush 10, 2) := by decide +kernel
theorem dX6_mean_100 : decode cX6_mean 100 = .ok (.iload_n 2, 1) := by decide +kernel
theorem dX6_mean_101 : decode cX6_mean 101 = .ok (.invokestatic 263, 3) := by decide +kernel
theorem dX6_mean_104 : decode cX6_mean 104 = .ok (.iload_n 3, 1) := by decide +kernel
theorem dX6_mean_105 : decode cX6_mean 105 = .ok (.invokestatic 267, 3) := by decide +kernel
theorem dX6_mean_108 : decode cX6_mean 108 = .ok (.lreturn, 1) := by decide +kernel
theorem dX6_see_0 : decode cX6_see 0 = .ok (.iload_n 1, 1) := by decide +kernel
theorem dX6_see_1 : decode cX6_see 1 = .ok (.iconst 0, 1) := by decide +kernel
theorem dX6_see_2 : decode cX6_see 2 = .ok (.bipush 20, 2) := by decide +kernel
theorem dX6_see_4 : decode cX6_see 4 = .ok (.invokestatic 51, 3) := by decide +kernel
theorem dX6_see_7 : decode cX6_see 7 = .ok (.ifCond .eq 14, 3) := by decide +kernel
theorem dX6_see_10 : decode cX6_see 10 = .ok (.iload_n 2, 1) := by decide +kernel
theorem dX6_see_11 : decode cX6_see 11 = .ok (.iconst 0, 1) := by decide +kernel
theorem dX6_see_12 : decode cX6_see 12 = .ok (.sipush 999, 3) := by decide +kernel
theorem dX6_see_15 : decode cX6_see 15 = .ok (.invokestatic 51, 3) := by decide +kernel
theorem dX6_see_18 : decode cX6_see 18 = .ok (.ifCond .ne 5, 3) := by decide +kernel
theorem dX6_see_21 : decode cX6_see 21 = .ok (.iconst (-1), 1) := by decide +kernel
theorem dX6_see_22 : decode cX6_see 22 = .ok (.ireturn, 1) := by decide +kernel
theorem dX6_see_23 : decode cX6_see 23 = .ok (.aload_n 0, 1) := by decide +kernel
theorem dX6_see_24 : decode cX6_see 24 = .ok (.getfield 33, 3) := by decide +kernel
theorem dX6_see_27 : decode cX6_see 27 = .ok (.iload_n 1, 1) := by decide +kernel
theorem dX6_see_28 : decode cX6_see 28 = .ok (.iload_n 2, 1) := by decide +kernel
theorem dX6_see_29 : decode cX6_see 29 = .ok (.invokevirtual 271, 3) := by decide +kernel
theorem dX6_see_32 : decode cX6_see 32 = .ok (.ifCond .eq 13, 3) := by decide +kernel
theorem dX6_see_35 : decode cX6_see 35 = .ok (.aload_n 0, 1) := by decide +kernel
theorem dX6_see_36 : decode cX6_see 36 = .ok (.getfield 33, 3) := by decide +kernel
theorem dX6_see_39 : decode cX6_see 39 = .ok (.getfield 89, 3) := by decide +kernel
theorem dX6_see_42 : decode cX6_see 42 = .ok (.goto 5, 3) := by decide +kernel
theorem dX6_see_45 : decode cX6_see 45 = .ok (.bipush (-3), 2) := by decide +kernel
theorem dX6_see_47 : decode cX6_see 47 = .ok (.ireturn, 1) := by decide +kernel
theorem dX6_forget_0 : decode cX6_forget 0 = .ok (.iload_n 1, 1) := by decide +kernel
theorem dX6_forget_1 : decode cX6_forget 1 = .ok (.iconst 0, 1) := by decide +kernel
theorem dX6_forget_2 : decode cX6_forget 2 = .ok (.aload_n 0, 1) := by decide +kernel
theorem dX6_forget_3 : decode cX6_forget 3 = .ok (.getfield 33, 3) := by decide +kernel
theorem dX6_forget_6 : decode cX6_forget 6 = .ok (.getfield 89, 3) := by decide +kernel
theorem dX6_forget_9 : decode cX6_forget 9 = .ok (.invokestatic 51, 3) := by decide +kernel
theorem dX6_forget_12 : decode cX6_forget 12 = .ok (.ifCond .ne 5, 3) := by decide +kernel
theorem dX6_forget_15 : decode cX6_forget 15 = .ok (.iconst (-1), 1) := by decide +kernel
theorem dX6_forget_16 : decode cX6_forget 16 = .ok (.ireturn, 1) := by decide +kernel
theorem dX6_forget_17 : decode cX6_forget 17 = .ok (.aload_n 0, 1) := by decide +kernel
theorem dX6_forget_18 : decode cX6_forget 18 = .ok (.getfield 33, 3) := by decide +kernel
theorem dX6_forget_21 : decode cX6_forget 21 = .ok (.getfield 89, 3) := by decide +kernel
theorem dX6_forget_24 : decode cX6_forget 24 = .ok (.istore_n 2, 1) := by decide +kernel
theorem dX6_forget_25 : decode cX6_forget 25 = .ok (.aload_n 0, 1) := by decide +kernel
theorem dX6_forget_26 : decode cX6_forget 26 = .ok (.getfield 33, 3) := by decide +kernel
theorem dX6_forget_29 : decode cX6_forget 29 = .ok (.iload_n 1, 1) := by decide +kernel
theorem dX6_forget_30 : decode cX6_forget 30 = .ok (.putfield 89, 3) := by decide +kernel
theorem dX6_forget_33 : decode cX6_forget 33 = .ok (.iload_n 2, 1) := by decide +kernel
theorem dX6_forget_34 : decode cX6_forget 34 = .ok (.ireturn, 1) := by decide +kernel
theorem dX6_kinds_0 : decode cX6_kinds 0 = .ok (.aload_n 0, 1) := by decide +kernel
theorem dX6_kinds_1 : decode cX6_kinds 1 = .ok (.getfield 10, 3) := by decide +kernel
theorem dX6_kinds_4 : decode cX6_kinds 4 = .ok (.iload_n 1, 1) := by decide +kernel
theorem dX6_kinds_5 : decode cX6_kinds 5 = .ok (.invokevirtual 136, 3) := by decide +kernel
theorem dX6_kinds_8 : decode cX6_kinds 8 = .ok (.ifCond .ne 5, 3) := by decide +kernel
theorem dX6_kinds_11 : decode cX6_kinds 11 = .ok (.iconst (-1), 1) := by decide +kernel
theorem dX6_kinds_12 : decode cX6_kinds 12 = .ok (.ireturn, 1) := by decide +kernel
theorem dX6_kinds_13 : decode cX6_kinds 13 = .ok (.aload_n 0, 1) := by decide +kernel
theorem dX6_kinds_14 : decode cX6_kinds 14 = .ok (.getfield 40, 3) := by decide +kernel
theorem dX6_kinds_17 : decode cX6_kinds 17 = .ok (.invokevirtual 274, 3) := by decide +kernel
theorem dX6_kinds_20 : decode cX6_kinds 20 = .ok (.iconst 0, 1) := by decide +kernel
theorem dX6_kinds_21 : decode cX6_kinds 21 = .ok (.istore_n 2, 1) := by decide +kernel
theorem dX6_kinds_22 : decode cX6_kinds 22 = .ok (.iload_n 2, 1) := by decide +kernel
theorem dX6_kinds_23 : decode cX6_kinds 23 = .ok (.iconst 3, 1) := by decide +kernel
theorem dX6_kinds_24 : decode cX6_kinds 24 = .ok (.if_icmp .gt 36, 3) := by decide +kernel
theorem dX6_kinds_27 : decode cX6_kinds 27 = .ok (.aload_n 0, 1) := by decide +kernel
theorem dX6_kinds_28 : decode cX6_kinds 28 = .ok (.invokevirtual 196, 3) := by decide +kernel
theorem dX6_kinds_31 : decode cX6_kinds 31 = .ok (.astore_n 3, 1) := by decide +kernel
theorem dX6_kinds_32 : decode cX6_kinds 32 = .ok (.aload_n 3, 1) := by decide +kernel
theorem dX6_kinds_33 : decode cX6_kinds 33 = .ok (.getfield 139, 3) := by decide +kernel
theorem dX6_kinds_36 : decode cX6_kinds 36 = .ok (.iload_n 1, 1) := by decide +kernel
theorem dX6_kinds_37 : decode cX6_kinds 37 = .ok (.iload_n 2, 1) := by decide +kernel
theorem dX6_kinds_38 : decode cX6_kinds 38 = .ok (.iastore, 1) := by decide +kernel
theorem dX6_kinds_39 : decode cX6_kinds 39 = .ok (.aload_n 0, 1) := by decide +kernel
theorem dX6_kinds_40 : decode cX6_kinds 40 = .ok (.getfield 40, 3) := by decide +kernel
theorem dX6_kinds_43 : decode cX6_kinds 43 = .ok (.aload_n 3, 1) := by decide +kernel
theorem dX6_kinds_44 : decode cX6_kinds 44 = .ok (.aload_n 0, 1) := by decide +kernel
theorem dX6_kinds_45 : decode cX6_kinds 45 = .ok (.getfield 33, 3) := by decide +kernel
theorem dX6_kinds_48 : decode cX6_kinds 48 = .ok (.invokevirtual 277, 3) := by decide +kernel
theorem dX6_kinds_51 : decode cX6_kinds 51 = .ok (.invokevirtual 280, 3) := by decide +kernel
theorem dX6_kinds_54 : decode cX6_kinds 54 = .ok (.iinc 2 1, 3) := by decide +kernel
theorem dX6_kinds_57 : decode cX6_kinds 57 = .ok (.goto (-35), 3) := by decide +kernel
theorem dX6_kinds_60 : decode cX6_kinds 60 = .ok (.aload_n 0, 1) := by decide +kernel
theorem dX6_kinds_61 : decode cX6_kinds 61 = .ok (.getfield 33, 3) := by decide +kernel
theorem dX6_kinds_64 : decode cX6_kinds 64 = .ok (.aload_n 0, 1) := by decide +kernel
theorem dX6_kinds_65 : decode cX6_kinds 65 = .ok (.getfield 40, 3) := by decide +kernel
theorem dX6_kinds_68 : decode cX6_kinds 68 = .ok (.invokevirtual 284, 3) := by decide +kernel
theorem dX6_kinds_71 : decode cX6_kinds 71 = .ok (.ireturn, 1) := by decide +kernel
theorem dX6_leaks_0 : decode cX6_leaks 0 = .ok (.aload_n 0, 1) := by decide +kernel
theorem dX6_leaks_1 : decode cX6_leaks 1 = .ok (.getfield 10, 3) := by decide +kernel
theorem dX6_leaks_4 : decode cX6_leaks 4 = .ok (.iload_n 1, 1) := by decide +kernel
theorem dX6_leaks_5 : decode cX6_leaks 5 = .ok (.invokevirtual 122, 3) := by decide +kernel
theorem dX6_leaks_8 : decode cX6_leaks 8 = .ok (.ifCond .ne 5, 3) := by decide +kernel
theorem dX6_leaks_11 : decode cX6_leaks 11 = .ok (.iconst (-1), 1) := by decide +kernel
theorem dX6_leaks_12 : decode cX6_leaks 12 = .ok (.ireturn, 1) := by decide +kernel
theorem dX6_leaks_13 : decode cX6_leaks 13 = .ok (.aload_n 0, 1) := by decide +kernel
theorem dX6_leaks_14 : decode cX6_leaks 14 = .ok (.getfield 40, 3) := by decide +kernel
theorem dX6_leaks_17 : decode cX6_leaks 17 = .ok (.invokevirtual 274, 3) := by decide +kernel
theorem dX6_leaks_20 : decode cX6_leaks 20 = .ok (.iconst 0, 1) := by decide +kernel
theorem dX6_leaks_21 : decode cX6_leaks 21 = .ok (.istore_n 2, 1) := by decide +kernel
theorem dX6_leaks_22 : decode cX6_leaks 22 = .ok (.iload_n 2, 1) := by decide +kernel
theorem dX6_leaks_23 : decode cX6_leaks 23 = .ok (.iconst 3, 1) := by decide +kernel
theorem dX6_leaks_24 : decode cX6_leaks 24 = .ok (.if_icmp .gt 36, 3) := by decide +kernel
theorem dX6_leaks_27 : decode cX6_leaks 27 = .ok (.aload_n 0, 1) := by decide +kernel
theorem dX6_leaks_28 : decode cX6_leaks 28 = .ok (.invokevirtual 196, 3) := by decide +kernel
theorem dX6_leaks_31 : decode cX6_leaks 31 = .ok (.astore_n 3, 1) := by decide +kernel
theorem dX6_leaks_32 : decode cX6_leaks 32 = .ok (.aload_n 3, 1) := by decide +kernel
theorem dX6_leaks_33 : decode cX6_leaks 33 = .ok (.getfield 238, 3) := by decide +kernel
theorem dX6_leaks_36 : decode cX6_leaks 36 = .ok (.iload_n 1, 1) := by decide +kernel
theorem dX6_leaks_37 : decode cX6_leaks 37 = .ok (.iload_n 2, 1) := by decide +kernel
theorem dX6_leaks_38 : decode cX6_leaks 38 = .ok (.iastore, 1) := by decide +kernel
theorem dX6_leaks_39 : decode cX6_leaks 39 = .ok (.aload_n 0, 1) := by decide +kernel
theorem dX6_leaks_40 : decode cX6_leaks 40 = .ok (.getfield 40, 3) := by decide +kernel
theorem dX6_leaks_43 : decode cX6_leaks 43 = .ok (.aload_n 3, 1) := by decide +kernel
theorem dX6_leaks_44 : decode cX6_leaks 44 = .ok (.aload_n 0, 1) := by decide +kernel
theorem dX6_leaks_45 : decode cX6_leaks 45 = .ok (.getfield 33, 3) := by decide +kernel
theorem dX6_leaks_48 : decode cX6_leaks 48 = .ok (.invokevirtual 277, 3) := by decide +kernel
theorem dX6_leaks_51 : decode cX6_leaks 51 = .ok (.invokevirtual 280, 3) := by decide +kernel
theorem dX6_leaks_54 : decode cX6_leaks 54 = .ok (.iinc 2 1, 3) := by decide +kernel
theorem dX6_leaks_57 : decode cX6_leaks 57 = .ok (.goto (-35), 3) := by decide +kernel
theorem dX6_leaks_60 : decode cX6_leaks 60 = .ok (.aload_n 0, 1) := by decide +kernel
theorem dX6_leaks_61 : decode cX6_leaks 61 = .ok (.getfield 33, 3) := by decide +kernel
theorem dX6_leaks_64 : decode cX6_leaks 64 = .ok (.aload_n 0, 1) := by decide +kernel
theorem dX6_leaks_65 : decode cX6_leaks 65 = .ok (.getfield 40, 3) := by decide +kernel
theorem dX6_leaks_68 : decode cX6_leaks 68 = .ok (.invokevirtual 284, 3) := by decide +kernel
theorem dX6_leaks_71 : decode cX6_leaks 71 = .ok (.ireturn, 1) := by decide +kernel
theorem dX6_rooms_0 : decode cX6_rooms 0 = .ok (.aload_n 0, 1) := by decide +kernel
theorem dX6_rooms_1 : decode cX6_rooms 1 = .ok (.getfield 10, 3) := by decide +kernel
theorem dX6_rooms_4 : decode cX6_rooms 4 = .ok (.iload_n 1, 1) := by decide +kernel
theorem dX6_rooms_5 : decode cX6_rooms 5 = .ok (.invokevirtual 122, 3) := by decide +kernel
theorem dX6_rooms_8 : decode cX6_rooms 8 = .ok (.ifCond .ne 5, 3) := by decide +kernel
theorem dX6_rooms_11 : decode cX6_rooms 11 = .ok (.iconst (-1), 1) := by decide +kernel
theorem dX6_rooms_12 : decode cX6_rooms 12 = .ok (.ireturn, 1) := by decide +kernel
theorem dX6_rooms_13 : decode cX6_rooms 13 = .ok (.aload_n 0, 1) := by decide +kernel
theorem dX6_rooms_14 : decode cX6_rooms 14 = .ok (.iload_n 1, 1) := by decide +kernel
theorem dX6_rooms_15 : decode cX6_rooms 15 = .ok (.aload_n 0, 1) := by decide +kernel
theorem dX6_rooms_16 : decode cX6_rooms 16 = .ok (.getfield 33, 3) := by decide +kernel
theorem dX6_rooms_19 : decode cX6_rooms 19 = .ok (.invokevirtual 277, 3) := by decide +kernel
theorem dX6_rooms_22 : decode cX6_rooms 22 = .ok (.invokevirtual 288, 3) := by decide +kernel
theorem dX6_rooms_25 : decode cX6_rooms 25 = .ok (.aload_n 0, 1) := by decide +kernel
theorem dX6_rooms_26 : decode cX6_rooms 26 = .ok (.getfield 33, 3) := by decide +kernel
theorem dX6_rooms_29 : decode cX6_rooms 29 = .ok (.aload_n 0, 1) := by decide +kernel
theorem dX6_rooms_30 : decode cX6_rooms 30 = .ok (.getfield 40, 3) := by decide +kernel
theorem dX6_rooms_33 : decode cX6_rooms 33 = .ok (.invokevirtual 284, 3) := by decide +kernel
theorem dX6_rooms_36 : decode cX6_rooms 36 = .ok (.ireturn, 1) := by decide +kernel
theorem dX6_ask_0 : decode cX6_ask 0 = .ok (.aload_n 0, 1) := by decide +kernel
theorem dX6_ask_1 : decode cX6_ask 1 = .ok (.getfield 10, 3) := by decide +kernel
theorem dX6_ask_4 : decode cX6_ask 4 = .ok (.iload_n 1, 1) := by decide +kernel
theorem dX6_ask_5 : decode cX6_ask 5 = .ok (.invokevirtual 122, 3) := by decide +kernel
theorem dX6_ask_8 : decode cX6_ask 8 = .ok (.ifCond .eq 12, 3) := by decide +kernel
theorem dX6_ask_11 : decode cX6_ask 11 = .ok (.iload_n 2, 1) := by decide +kernel
theorem dX6_ask_12 : decode cX6_ask 12 = .ok (.iconst 0, 1) := by decide +kernel
theorem dX6_ask_13 : decode cX6_ask 13 = .ok (.iconst 1, 1) := by decide +kernel
theorem dX6_ask_14 : decode cX6_ask 14 = .ok (.invokestatic 51, 3) := by decide +kernel
theorem dX6_ask_17 : decode cX6_ask 17 = .ok (.ifCond .ne 5, 3) := by decide +kernel
theorem dX6_ask_20 : decode cX6_ask 20 = .ok (.iconst (-1), 1) := by decide +kernel
theorem dX6_ask_21 : decode cX6_ask 21 = .ok (.ireturn, 1) := by decide +kernel
theorem dX6_ask_22 : decode cX6_ask 22 = .ok (.aload_n 0, 1) := by decide +kernel
theorem dX6_ask_23 : decode cX6_ask 23 = .ok (.iload_n 1, 1) := by decide +kernel
theorem dX6_ask_24 : decode cX6_ask 24 = .ok (.bipush 20, 2) := by decide +kernel
theorem dX6_ask_26 : decode cX6_ask 26 = .ok (.invokevirtual 288, 3) := by decide +kernel
theorem dX6_ask_29 : decode cX6_ask 29 = .ok (.aload_n 0, 1) := by decide +kernel
theorem dX6_ask_30 : decode cX6_ask 30 = .ok (.getfield 33, 3) := by decide +kernel
theorem dX6_ask_33 : decode cX6_ask 33 = .ok (.aload_n 0, 1) := by decide +kernel
theorem dX6_ask_34 : decode cX6_ask 34 = .ok (.getfield 40, 3) := by decide +kernel
theorem dX6_ask_37 : decode cX6_ask 37 = .ok (.invokevirtual 284, 3) := by decide +kernel
theorem dX6_ask_40 : decode cX6_ask 40 = .ok (.istore_n 3, 1) := by decide +kernel
theorem dX6_ask_41 : decode cX6_ask 41 = .ok (.iload_n 3, 1) := by decide +kernel
theorem dX6_ask_42 : decode cX6_ask 42 = .ok (.invokestatic 291, 3) := by decide +kernel
theorem dX6_ask_45 : decode cX6_ask 45 = .ok (.istore 4, 2) := by decide +kernel
theorem dX6_ask_47 : decode cX6_ask 47 = .ok (.bipush (-4), 2) := by decide +kernel
theorem dX6_ask_49 : decode cX6_ask 49 = .ok (.istore 5, 2) := by decide +kernel
theorem dX6_ask_51 : decode cX6_ask 51 = .ok (.iconst 0, 1) := by decide +kernel
theorem dX6_ask_52 : decode cX6_ask 52 = .ok (.istore 6, 2) := by decide +kernel
theorem dX6_ask_54 : decode cX6_ask 54 = .ok (.iload 6, 2) := by decide +kernel
theorem dX6_ask_56 : decode cX6_ask 56 = .ok (.bipush 20, 2) := by decide +kernel
theorem dX6_ask_58 : decode cX6_ask 58 = .ok (.if_icmp .gt 36, 3) := by decide +kernel
theorem dX6_ask_61 : decode cX6_ask 61 = .ok (.aload_n 0, 1) := by decide +kernel
theorem dX6_ask_62 : decode cX6_ask 62 = .ok (.getfield 40, 3) := by decide +kernel
theorem dX6_ask_65 : decode cX6_ask 65 = .ok (.iload_n 3, 1) := by decide +kernel
theorem dX6_ask_66 : decode cX6_ask 66 = .ok (.iload 6, 2) := by decide +kernel
theorem dX6_ask_68 : decode cX6_ask 68 = .ok (.invokevirtual 296, 3) := by decide +kernel
theorem dX6_ask_71 : decode cX6_ask 71 = .ok (.istore 7, 2) := by decide +kernel
theorem dX6_ask_73 : decode cX6_ask 73 = .ok (.iload 7, 2) := by decide +kernel
theorem dX6_ask_75 : decode cX6_ask 75 = .ok (.iload 4, 2) := by decide +kernel
theorem dX6_ask_77 : decode cX6_ask 77 = .ok (.if_icmp .ge 11, 3) := by decide +kernel
theorem dX6_ask_80 : decode cX6_ask 80 = .ok (.iload 7, 2) := by decide +kernel
theorem dX6_ask_82 : decode cX6_ask 82 = .ok (.istore 4, 2) := by decide +kernel
theorem dX6_ask_84 : decode cX6_ask 84 = .ok (.iload 6, 2) := by decide +kernel
theorem dX6_ask_86 : decode cX6_ask 86 = .ok (.istore 5, 2) := by decide +kernel
theorem dX6_ask_88 : decode cX6_ask 88 = .ok (.iinc 6 1, 3) := by decide +kernel
theorem dX6_ask_91 : decode cX6_ask 91 = .ok (.goto (-37), 3) := by decide +kernel
theorem dX6_ask_94 : decode cX6_ask 94 = .ok (.iload 5, 2) := by decide +kernel
theorem dX6_ask_96 : decode cX6_ask 96 = .ok (.bipush (-4), 2) := by decide +kernel
theorem dX6_ask_98 : decode cX6_ask 98 = .ok (.if_icmp .eq 7, 3) := by decide +kernel
theorem dX6_ask_101 : decode cX6_ask 101 = .ok (.iload_n 2, 1) := by decide +kernel
theorem dX6_ask_102 : decode cX6_ask 102 = .ok (.ifCond .ne 8, 3) := by decide +kernel
theorem dX6_ask_105 : decode cX6_ask 105 = .ok (.iload 5, 2) := by decide +kernel
theorem dX6_ask_107 : decode cX6_ask 107 = .ok (.goto 5, 3) := by decide +kernel
theorem dX6_ask_110 : decode cX6_ask 110 = .ok (.iload 4, 2) := by decide +kernel
theorem dX6_ask_112 : decode cX6_ask 112 = .ok (.ireturn, 1) := by decide +kernel
theorem dX6_drift_0 : decode cX6_drift 0 = .ok (.iload_n 2, 1) := by decide +kernel
theorem dX6_drift_1 : decode cX6_drift 1 = .ok (.iconst 1, 1) := by decide +kernel
theorem dX6_drift_2 : decode cX6_drift 2 = .ok (.bipush 60, 2) := by decide +kernel
theorem dX6_drift_4 : decode cX6_drift 4 = .ok (.invokestatic 51, 3) := by decide +kernel
theorem dX6_drift_7 : decode cX6_drift 7 = .ok (.ifCond .eq 12, 3) := by decide +kernel
theorem dX6_drift_10 : decode cX6_drift 10 = .ok (.iload_n 3, 1) := by decide +kernel
theorem dX6_drift_11 : decode cX6_drift 11 = .ok (.iconst 0, 1) := by decide +kernel
theorem dX6_drift_12 : decode cX6_drift 12 = .ok (.iconst 1, 1) := by decide +kernel
theorem dX6_drift_13 : decode cX6_drift 13 = .ok (.invokestatic 51, 3) := by decide +kernel
theorem dX6_drift_16 : decode cX6_drift 16 = .ok (.ifCond .ne 5, 3) := by decide +kernel
theorem dX6_drift_19 : decode cX6_drift 19 = .ok (.iconst (-1), 1) := by decide +kernel
theorem dX6_drift_20 : decode cX6_drift 20 = .ok (.ireturn, 1) := by decide +kernel
theorem dX6_drift_21 : decode cX6_drift 21 = .ok (.aload_n 0, 1) := by decide +kernel
theorem dX6_drift_22 : decode cX6_drift 22 = .ok (.getfield 10, 3) := by decide +kernel
theorem dX6_drift_25 : decode cX6_drift 25 = .ok (.getfield 95, 3) := by decide +kernel
theorem dX6_drift_28 : decode cX6_drift 28 = .ok (.ifCond .ne 6, 3) := by decide +kernel
theorem dX6_drift_31 : decode cX6_drift 31 = .ok (.bipush (-2), 2) := by decide +kernel
theorem dX6_drift_33 : decode cX6_drift 33 = .ok (.ireturn, 1) := by decide +kernel
theorem dX6_drift_34 : decode cX6_drift 34 = .ok (.aload_n 0, 1) := by decide +kernel
theorem dX6_drift_35 : decode cX6_drift 35 = .ok (.invokevirtual 196, 3) := by decide +kernel
theorem dX6_drift_38 : decode cX6_drift 38 = .ok (.astore 4, 2) := by decide +kernel
theorem dX6_drift_40 : decode cX6_drift 40 = .ok (.iload_n 1, 1) := by decide +kernel
theorem dX6_drift_41 : decode cX6_drift 41 = .ok (.istore 5, 2) := by decide +kernel
theorem dX6_drift_43 : decode cX6_drift 43 = .ok (.iconst 0, 1) := by decide +kernel
theorem dX6_drift_44 : decode cX6_drift 44 = .ok (.istore 6, 2) := by decide +kernel
theorem dX6_drift_46 : decode cX6_drift 46 = .ok (.iload 6, 2) := by decide +kernel
theorem dX6_drift_48 : decode cX6_drift 48 = .ok (.iload_n 2, 1) := by decide +kernel
theorem dX6_drift_49 : decode cX6_drift 49 = .ok (.if_icmp .ge 50, 3) := by decide +kernel
theorem dX6_drift_52 : decode cX6_drift 52 = .ok (.iload 5, 2) := by decide +kernel
theorem dX6_drift_54 : decode cX6_drift 54 = .ok (.ldc_w 299, 3) := by decide +kernel
theorem dX6_drift_57 : decode cX6_drift 57 = .ok (.imul, 1) := by decide +kernel
theorem dX6_drift_58 : decode cX6_drift 58 = .ok (.sipush 12345, 3) := by decide +kernel
theorem dX6_drift_61 : decode cX6_drift 61 = .ok (.iadd, 1) := by decide +kernel
theorem dX6_drift_62 : decode cX6_drift 62 = .ok (.istore 5, 2) := by decide +kernel
theorem dX6_drift_64 : decode cX6_drift 64 = .ok (.iload 5, 2) := by decide +kernel
theorem dX6_drift_66 : decode cX6_drift 66 = .ok (.bipush 16, 2) := by decide +kernel
theorem dX6_drift_68 : decode cX6_drift 68 = .ok (.iushr, 1) := by decide +kernel
theorem dX6_drift_69 : decode cX6_drift 69 = .ok (.sipush 32767, 3) := by decide +kernel
theorem dX6_drift_72 : decode cX6_drift 72 = .ok (.iand, 1) := by decide +kernel
theorem dX6_drift_73 : decode cX6_drift 73 = .ok (.istore 7, 2) := by decide +kernel
theorem dX6_drift_75 : decode cX6_drift 75 = .ok (.aload 4, 2) := by decide +kernel
theorem dX6_drift_77 : decode cX6_drift 77 = .ok (.iload 7, 2) := by decide +kernel
theorem dX6_drift_79 : decode cX6_drift 79 = .ok (.bipush 9, 2) := by decide +kernel
theorem dX6_drift_81 : decode cX6_drift 81 = .ok (.irem, 1) := by decide +kernel
theorem dX6_drift_82 : decode cX6_drift 82 = .ok (.iload 7, 2) := by decide +kernel
theorem dX6_drift_84 : decode cX6_drift 84 = .ok (.bipush 16, 2) := by decide +kernel
theorem dX6_drift_86 : decode cX6_drift 86 = .ok (.idiv, 1) := by decide +kernel
theorem dX6_drift_87 : decode cX6_drift 87 = .ok (.bipush 9, 2) := by decide +kernel
theorem dX6_drift_89 : decode cX6_drift 89 = .ok (.irem, 1) := by decide +kernel
theorem dX6_drift_90 : decode cX6_drift 90 = .ok (.invokevirtual 300, 3) := by decide +kernel
theorem dX6_drift_93 : decode cX6_drift 93 = .ok (.iinc 6 1, 3) := by decide +kernel
theorem dX6_drift_96 : decode cX6_drift 96 = .ok (.goto (-50), 3) := by decide +kernel
theorem dX6_drift_99 : decode cX6_drift 99 = .ok (.iload_n 3, 1) := by decide +kernel
theorem dX6_drift_100 : decode cX6_drift 100 = .ok (.ifCond .ne 19, 3) := by decide +kernel
theorem dX6_drift_103 : decode cX6_drift 103 = .ok (.aload 4, 2) := by decide +kernel
theorem dX6_drift_105 : decode cX6_drift 105 = .ok (.getfield 107, 3) := by decide +kernel
theorem dX6_drift_108 : decode cX6_drift 108 = .ok (.aload_n 0, 1) := by decide +kernel
theorem dX6_drift_109 : decode cX6_drift 109 = .ok (.getfield 10, 3) := by decide +kernel
theorem dX6_drift_112 : decode cX6_drift 112 = .ok (.getfield 107, 3) := by decide +kernel
theorem dX6_drift_115 : decode cX6_drift 115 = .ok (.isub, 1) := by decide +kernel
theorem dX6_drift_116 : decode cX6_drift 116 = .ok (.goto 8, 3) := by decide +kernel
theorem dX6_drift_119 : decode cX6_drift 119 = .ok (.aload 4, 2) := by decide +kernel
theorem dX6_drift_121 : decode cX6_drift 121 = .ok (.getfield 113, 3) := by decide +kernel
theorem dX6_drift_124 : decode cX6_drift 124 = .ok (.ireturn, 1) := by decide +kernel
theorem dX6_keep_0 : decode cX6_keep 0 = .ok (.iload_n 1, 1) := by decide +kernel
theorem dX6_keep_1 : decode cX6_keep 1 = .ok (.iconst 0, 1) := by decide +kernel
theorem dX6_keep_2 : decode cX6_keep 2 = .ok (.iconst 1, 1) := by decide +kernel
theorem dX6_keep_3 : decode cX6_keep 3 = .ok (.invokestatic 51, 3) := by decide +kernel
theorem dX6_keep_6 : decode cX6_keep 6 = .ok (.ifCond .ne 5, 3) := by decide +kernel
theorem dX6_keep_9 : decode cX6_keep 9 = .ok (.iconst (-1), 1) := by decide +kernel
theorem dX6_keep_10 : decode cX6_keep 10 = .ok (.ireturn, 1) := by decide +kernel
theorem dX6_keep_11 : decode cX6_keep 11 = .ok (.aload_n 0, 1) := by decide +kernel
theorem dX6_keep_12 : decode cX6_keep 12 = .ok (.getfield 92, 3) := by decide +kernel
theorem dX6_keep_15 : decode cX6_keep 15 = .ok (.iload_n 1, 1) := by decide +kernel
theorem dX6_keep_16 : decode cX6_keep 16 = .ok (.ishr, 1) := by decide +kernel
theorem dX6_keep_17 : decode cX6_keep 17 = .ok (.iconst 1, 1) := by decide +kernel
theorem dX6_keep_18 : decode cX6_keep 18 = .ok (.iand, 1) := by decide +kernel
theorem dX6_keep_19 : decode cX6_keep 19 = .ok (.istore_n 2, 1) := by decide +kernel
theorem dX6_keep_20 : decode cX6_keep 20 = .ok (.aload_n 0, 1) := by decide +kernel
theorem dX6_keep_21 : decode cX6_keep 21 = .ok (.getfield 19, 3) := by decide +kernel
theorem dX6_keep_24 : decode cX6_keep 24 = .ok (.iload_n 1, 1) := by decide +kernel
theorem dX6_keep_25 : decode cX6_keep 25 = .ok (.aaload, 1) := by decide +kernel
theorem dX6_keep_26 : decode cX6_keep 26 = .ok (.aload_n 0, 1) := by decide +kernel
theorem dX6_keep_27 : decode cX6_keep 27 = .ok (.getfield 10, 3) := by decide +kernel
theorem dX6_keep_30 : decode cX6_keep 30 = .ok (.invokevirtual 85, 3) := by decide +kernel
theorem dX6_keep_33 : decode cX6_keep 33 = .ok (.aload_n 0, 1) := by decide +kernel
theorem dX6_keep_34 : decode cX6_keep 34 = .ok (.dup, 1) := by decide +kernel
theorem dX6_keep_35 : decode cX6_keep 35 = .ok (.getfield 92, 3) := by decide +kernel
theorem dX6_keep_38 : decode cX6_keep 38 = .ok (.iconst 1, 1) := by decide +kernel
theorem dX6_keep_39 : decode cX6_keep 39 = .ok (.iload_n 1, 1) := by decide +kernel
theorem dX6_keep_40 : decode cX6_keep 40 = .ok (.ishl, 1) := by decide +kernel
theorem dX6_keep_41 : decode cX6_keep 41 = .ok (.ior, 1) := by decide +kernel
theorem dX6_keep_42 : decode cX6_keep 42 = .ok (.putfield 92, 3) := by decide +kernel
theorem dX6_keep_45 : decode cX6_keep 45 = .ok (.iload_n 2, 1) := by decide +kernel
theorem dX6_keep_46 : decode cX6_keep 46 = .ok (.ireturn, 1) := by decide +kernel
theorem dX6_back_0 : decode cX6_back 0 = .ok (.iload_n 1, 1) := by decide +kernel
theorem dX6_back_1 : decode cX6_back 1 = .ok (.iconst 0, 1) := by decide +kernel
theorem dX6_back_2 : decode cX6_back 2 = .ok (.iconst 1, 1) := by decide +kernel
theorem dX6_back_3 : decode cX6_back 3 = .ok (.invokestatic 51, 3) := by decide +kernel
theorem dX6_back_6 : decode cX6_back 6 = .ok (.ifCond .ne 5, 3) := by decide +kernel
theorem dX6_back_9 : decode cX6_back 9 = .ok (.iconst (-1), 1) := by decide +kernel
theorem dX6_back_10 : decode cX6_back 10 = .ok (.ireturn, 1) := by decide +kernel
theorem dX6_back_11 : decode cX6_back 11 = .ok (.aload_n 0, 1) := by decide +kernel
theorem dX6_back_12 : decode cX6_back 12 = .ok (.getfield 92, 3) := by decide +kernel
theorem dX6_back_15 : decode cX6_back 15 = .ok (.iload_n 1, 1) := by decide +kernel
theorem dX6_back_16 : decode cX6_back 16 = .ok (.ishr, 1) := by decide +kernel
theorem dX6_back_17 : decode cX6_back 17 = .ok (.iconst 1, 1) := by decide +kernel
theorem dX6_back_18 : decode cX6_back 18 = .ok (.iand, 1) := by decide +kernel
theorem dX6_back_19 : decode cX6_back 19 = .ok (.ifCond .ne 6, 3) := by decide +kernel
theorem dX6_back_22 : decode cX6_back 22 = .ok (.bipush (-2), 2) := by decide +kernel
theorem dX6_back_24 : decode cX6_back 24 = .ok (.ireturn, 1) := by decide +kernel
theorem dX6_back_25 : decode cX6_back 25 = .ok (.aload_n 0, 1) := by decide +kernel
theorem dX6_back_26 : decode cX6_back 26 = .ok (.getfield 10, 3) := by decide +kernel
theorem dX6_back_29 : decode cX6_back 29 = .ok (.aload_n 0, 1) := by decide +kernel
theorem dX6_back_30 : decode cX6_back 30 = .ok (.getfield 19, 3) := by decide +kernel
theorem dX6_back_33 : decode cX6_back 33 = .ok (.iload_n 1, 1) := by decide +kernel
theorem dX6_back_34 : decode cX6_back 34 = .ok (.aaload, 1) := by decide +kernel
theorem dX6_back_35 : decode cX6_back 35 = .ok (.invokevirtual 85, 3) := by decide +kernel
theorem dX6_back_38 : decode cX6_back 38 = .ok (.aload_n 0, 1) := by decide +kernel
theorem dX6_back_39 : decode cX6_back 39 = .ok (.getfield 10, 3) := by decide +kernel
theorem dX6_back_42 : decode cX6_back 42 = .ok (.getfield 101, 3) := by decide +kernel
theorem dX6_back_45 : decode cX6_back 45 = .ok (.ireturn, 1) := by decide +kernel
theorem dX6_sheet_0 : decode cX6_sheet 0 = .ok (.iload_n 1, 1) := by decide +kernel
theorem dX6_sheet_1 : decode cX6_sheet 1 = .ok (.invokestatic 303, 3) := by decide +kernel
theorem dX6_sheet_4 : decode cX6_sheet 4 = .ok (.ifCond .eq 18, 3) := by decide +kernel
theorem dX6_sheet_7 : decode cX6_sheet 7 = .ok (.iload_n 2, 1) := by decide +kernel
theorem dX6_sheet_8 : decode cX6_sheet 8 = .ok (.iconst 0, 1) := by decide +kernel
theorem dX6_sheet_9 : decode cX6_sheet 9 = .ok (.iconst 2, 1) := by decide +kernel
theorem dX6_sheet_10 : decode cX6_sheet 10 = .ok (.invokestatic 51, 3) := by decide +kernel
theorem dX6_sheet_13 : decode cX6_sheet 13 = .ok (.ifCond .eq 9, 3) := by decide +kernel
theorem dX6_sheet_16 : decode cX6_sheet 16 = .ok (.iload_n 3, 1) := by decide +kernel
theorem dX6_sheet_17 : decode cX6_sheet 17 = .ok (.bipush 40, 2) := by decide +kernel
theorem dX6_sheet_19 : decode cX6_sheet 19 = .ok (.if_icmp .le 5, 3) := by decide +kernel
theorem dX6_sheet_22 : decode cX6_sheet 22 = .ok (.iconst (-1), 1) := by decide +kernel
theorem dX6_sheet_23 : decode cX6_sheet 23 = .ok (.ireturn, 1) := by decide +kernel
theorem dX6_sheet_24 : decode cX6_sheet 24 = .ok (.iload_n 3, 1) := by decide +kernel
theorem dX6_sheet_25 : decode cX6_sheet 25 = .ok (.ifCond .ge 6, 3) := by decide +kernel
theorem dX6_sheet_28 : decode cX6_sheet 28 = .ok (.bipush (-14), 2) := by decide +kernel
theorem dX6_sheet_30 : decode cX6_sheet 30 = .ok (.ireturn, 1) := by decide +kernel
theorem dX6_sheet_31 : decode cX6_sheet 31 = .ok (.aload_n 0, 1) := by decide +kernel
theorem dX6_sheet_32 : decode cX6_sheet 32 = .ok (.getfield 46, 3) := by decide +kernel
theorem dX6_sheet_35 : decode cX6_sheet 35 = .ok (.iload_n 1, 1) := by decide +kernel
theorem dX6_sheet_36 : decode cX6_sheet 36 = .ok (.aaload, 1) := by decide +kernel
theorem dX6_sheet_37 : decode cX6_sheet 37 = .ok (.iload_n 2, 1) := by decide +kernel
theorem dX6_sheet_38 : decode cX6_sheet 38 = .ok (.iload_n 3, 1) := by decide +kernel
theorem dX6_sheet_39 : decode cX6_sheet 39 = .ok (.invokevirtual 306, 3) := by decide +kernel
theorem dX6_sheet_42 : decode cX6_sheet 42 = .ok (.iconst 1, 1) := by decide +kernel
theorem dX6_sheet_43 : decode cX6_sheet 43 = .ok (.ireturn, 1) := by decide +kernel
theorem dX6_lay_0 : decode cX6_lay 0 = .ok (.iload_n 1, 1) := by decide +kernel
theorem dX6_lay_1 : decode cX6_lay 1 = .ok (.invokestatic 303, 3) := by decide +kernel
theorem dX6_lay_4 : decode cX6_lay 4 = .ok (.ifCond .ne 5, 3) := by decide +kernel
theorem dX6_lay_7 : decode cX6_lay 7 = .ok (.iconst (-1), 1) := by decide +kernel
theorem dX6_lay_8 : decode cX6_lay 8 = .ok (.ireturn, 1) := by decide +kernel
theorem dX6_lay_9 : decode cX6_lay 9 = .ok (.aload_n 0, 1) := by decide +kernel
theorem dX6_lay_10 : decode cX6_lay 10 = .ok (.getfield 46, 3) := by decide +kernel
theorem dX6_lay_13 : decode cX6_lay 13 = .ok (.iload_n 1, 1) := by decide +kernel
theorem dX6_lay_14 : decode cX6_lay 14 = .ok (.aaload, 1) := by decide +kernel
theorem dX6_lay_15 : decode cX6_lay 15 = .ok (.astore 4, 2) := by decide +kernel
theorem dX6_lay_17 : decode cX6_lay 17 = .ok (.aload 4, 2) := by decide +kernel
theorem dX6_lay_19 : decode cX6_lay 19 = .ok (.aload 4, 2) := by decide +kernel
theorem dX6_lay_21 : decode cX6_lay 21 = .ok (.getfield 309, 3) := by decide +kernel
theorem dX6_lay_24 : decode cX6_lay 24 = .ok (.iload_n 2, 1) := by decide +kernel
theorem dX6_lay_25 : decode cX6_lay 25 = .ok (.invokevirtual 312, 3) := by decide +kernel
theorem dX6_lay_28 : decode cX6_lay 28 = .ok (.istore 5, 2) := by decide +kernel
theorem dX6_lay_30 : decode cX6_lay 30 = .ok (.iload 5, 2) := by decide +kernel
theorem dX6_lay_32 : decode cX6_lay 32 = .ok (.ifCond .eq 9, 3) := by decide +kernel
theorem dX6_lay_35 : decode cX6_lay 35 = .ok (.bipush (-10), 2) := by decide +kernel
theorem dX6_lay_37 : decode cX6_lay 37 = .ok (.iload 5, 2) := by decide +kernel
theorem dX6_lay_39 : decode cX6_lay 39 = .ok (.isub, 1) := by decide +kernel
theorem dX6_lay_40 : decode cX6_lay 40 = .ok (.ireturn, 1) := by decide +kernel
theorem dX6_lay_41 : decode cX6_lay 41 = .ok (.aload 4, 2) := by decide +kernel
theorem dX6_lay_43 : decode cX6_lay 43 = .ok (.getfield 315, 3) := by decide +kernel
theorem dX6_lay_46 : decode cX6_lay 46 = .ok (.iload_n 2, 1) := by decide +kernel
theorem dX6_lay_47 : decode cX6_lay 47 = .ok (.aload 4, 2) := by decide +kernel
theorem dX6_lay_49 : decode cX6_lay 49 = .ok (.iload_n 3, 1) := by decide +kernel
theorem dX6_lay_50 : decode cX6_lay 50 = .ok (.invokevirtual 318, 3) := by decide +kernel
theorem dX6_lay_53 : decode cX6_lay 53 = .ok (.iastore, 1) := by decide +kernel
theorem dX6_lay_54 : decode cX6_lay 54 = .ok (.iconst 1, 1) := by decide +kernel
theorem dX6_lay_55 : decode cX6_lay 55 = .ok (.ireturn, 1) := by decide +kernel
theorem dX6_read_0 : decode cX6_read 0 = .ok (.iload_n 1, 1) := by decide +kernel
theorem dX6_read_1 : decode cX6_read 1 = .ok (.invokestatic 303, 3) := by decide +kernel
theorem dX6_read_4 : decode cX6_read 4 = .ok (.ifCond .eq 23, 3) := by decide +kernel
theorem dX6_read_7 : decode cX6_read 7 = .ok (.iload_n 2, 1) := by decide +kernel
theorem dX6_read_8 : decode cX6_read 8 = .ok (.iconst 0, 1) := by decide +kernel
theorem dX6_read_9 : decode cX6_read 9 = .ok (.iconst 2, 1) := by decide +kernel
theorem dX6_read_10 : decode cX6_read 10 = .ok (.invokestatic 51, 3) := by decide +kernel
theorem dX6_read_13 : decode cX6_read 13 = .ok (.ifCond .eq 14, 3) := by decide +kernel
theorem dX6_read_16 : decode cX6_read 16 = .ok (.iload 4, 2) := by decide +kernel
theorem dX6_read_18 : decode cX6_read 18 = .ok (.iconst 0, 1) := by decide +kernel
theorem dX6_read_19 : decode cX6_read 19 = .ok (.bipush 40, 2) := by decide +kernel
theorem dX6_read_21 : decode cX6_read 21 = .ok (.invokestatic 51, 3) := by decide +kernel
theorem dX6_read_24 : decode cX6_read 24 = .ok (.ifCond .ne 5, 3) := by decide +kernel
theorem dX6_read_27 : decode cX6_read 27 = .ok (.iconst (-1), 1) := by decide +kernel
theorem dX6_read_28 : decode cX6_read 28 = .ok (.ireturn, 1) := by decide +kernel
theorem dX6_read_29 : decode cX6_read 29 = .ok (.aload_n 0, 1) := by decide +kernel
theorem dX6_read_30 : decode cX6_read 30 = .ok (.getfield 46, 3) := by decide +kernel
theorem dX6_read_33 : decode cX6_read 33 = .ok (.iload_n 1, 1) := by decide +kernel
theorem dX6_read_34 : decode cX6_read 34 = .ok (.aaload, 1) := by decide +kernel
theorem dX6_read_35 : decode cX6_read 35 = .ok (.astore 5, 2) := by decide +kernel
theorem dX6_read_37 : decode cX6_read 37 = .ok (.aload_n 0, 1) := by decide +kernel
theorem dX6_read_38 : decode cX6_read 38 = .ok (.invokevirtual 196, 3) := by decide +kernel
theorem dX6_read_41 : decode cX6_read 41 = .ok (.astore 6, 2) := by decide +kernel
theorem dX6_read_43 : decode cX6_read 43 = .ok (.iconst 0, 1) := by decide +kernel
theorem dX6_read_44 : decode cX6_read 44 = .ok (.istore 7, 2) := by decide +kernel
theorem dX6_read_46 : decode cX6_read 46 = .ok (.iconst 0, 1) := by decide +kernel
theorem dX6_read_47 : decode cX6_read 47 = .ok (.istore 8, 2) := by decide +kernel
theorem dX6_read_49 : decode cX6_read 49 = .ok (.iconst 0, 1) := by decide +kernel
theorem dX6_read_50 : decode cX6_read 50 = .ok (.istore 9, 2) := by decide +kernel
theorem dX6_read_52 : decode cX6_read 52 = .ok (.iload 9, 2) := by decide +kernel
theorem dX6_read_54 : decode cX6_read 54 = .ok (.iload 4, 2) := by decide +kernel
theorem dX6_read_56 : decode cX6_read 56 = .ok (.if_icmp .ge 61, 3) := by decide +kernel
theorem dX6_read_59 : decode cX6_read 59 = .ok (.iload 7, 2) := by decide +kernel
theorem dX6_read_61 : decode cX6_read 61 = .ok (.ifCond .ne 56, 3) := by decide +kernel
theorem dX6_read_64 : decode cX6_read 64 = .ok (.aload 5, 2) := by decide +kernel
theorem dX6_read_66 : decode cX6_read 66 = .ok (.iload_n 2, 1) := by decide +kernel
theorem dX6_read_67 : decode cX6_read 67 = .ok (.iload_n 3, 1) := by decide +kernel
theorem dX6_read_68 : decode cX6_read 68 = .ok (.iload 9, 2) := by decide +kernel
theorem dX6_read_70 : decode cX6_read 70 = .ok (.iadd, 1) := by decide +kernel
theorem dX6_read_71 : decode cX6_read 71 = .ok (.invokevirtual 312, 3) := by decide +kernel
theorem dX6_read_74 : decode cX6_read 74 = .ok (.istore 7, 2) := by decide +kernel
theorem dX6_read_76 : decode cX6_read 76 = .ok (.iload 7, 2) := by decide +kernel
theorem dX6_read_78 : decode cX6_read 78 = .ok (.ifCond .ne 33, 3) := by decide +kernel
theorem dX6_read_81 : decode cX6_read 81 = .ok (.aload 6, 2) := by decide +kernel
theorem dX6_read_83 : decode cX6_read 83 = .ok (.aload 5, 2) := by decide +kernel
theorem dX6_read_85 : decode cX6_read 85 = .ok (.getfield 315, 3) := by decide +kernel
theorem dX6_read_88 : decode cX6_read 88 = .ok (.iload_n 3, 1) := by decide +kernel
theorem dX6_read_89 : decode cX6_read 89 = .ok (.iload 9, 2) := by decide +kernel
theorem dX6_read_91 : decode cX6_read 91 = .ok (.iadd, 1) := by decide +kernel
theorem dX6_read_92 : decode cX6_read 92 = .ok (.iaload, 1) := by decide +kernel
theorem dX6_read_93 : decode cX6_read 93 = .ok (.invokevirtual 183, 3) := by decide +kernel
theorem dX6_read_96 : decode cX6_read 96 = .ok (.ifCond .ge 9, 3) := by decide +kernel
theorem dX6_read_99 : decode cX6_read 99 = .ok (.bipush (-20), 2) := by decide +kernel
theorem dX6_read_101 : decode cX6_read 101 = .ok (.iload 9, 2) := by decide +kernel
theorem dX6_read_103 : decode cX6_read 103 = .ok (.isub, 1) := by decide +kernel
theorem dX6_read_104 : decode cX6_read 104 = .ok (.ireturn, 1) := by decide +kernel
theorem dX6_read_105 : decode cX6_read 105 = .ok (.iload 9, 2) := by decide +kernel
theorem dX6_read_107 : decode cX6_read 107 = .ok (.iconst 1, 1) := by decide +kernel
theorem dX6_read_108 : decode cX6_read 108 = .ok (.iadd, 1) := by decide +kernel
theorem dX6_read_109 : decode cX6_read 109 = .ok (.istore 8, 2) := by decide +kernel
theorem dX6_read_111 : decode cX6_read 111 = .ok (.iinc 9 1, 3) := by decide +kernel
theorem dX6_read_114 : decode cX6_read 114 = .ok (.goto (-62), 3) := by decide +kernel
theorem dX6_read_117 : decode cX6_read 117 = .ok (.aload_n 0, 1) := by decide +kernel
theorem dX6_read_118 : decode cX6_read 118 = .ok (.getfield 10, 3) := by decide +kernel
theorem dX6_read_121 : decode cX6_read 121 = .ok (.aload 6, 2) := by decide +kernel
theorem dX6_read_123 : decode cX6_read 123 = .ok (.invokevirtual 85, 3) := by decide +kernel
theorem dX6_read_126 : decode cX6_read 126 = .ok (.aload_n 0, 1) := by decide +kernel
theorem dX6_read_127 : decode cX6_read 127 = .ok (.iload 7, 2) := by decide +kernel
theorem dX6_read_129 : decode cX6_read 129 = .ok (.putfield 321, 3) := by decide +kernel
theorem dX6_read_132 : decode cX6_read 132 = .ok (.iload 8, 2) := by decide +kernel
theorem dX6_read_134 : decode cX6_read 134 = .ok (.ireturn, 1) := by decide +kernel
theorem dX6_torn_0 : decode cX6_torn 0 = .ok (.aload_n 0, 1) := by decide +kernel
theorem dX6_torn_1 : decode cX6_torn 1 = .ok (.getfield 321, 3) := by decide +kernel
theorem dX6_torn_4 : decode cX6_torn 4 = .ok (.ireturn, 1) := by decide +kernel
theorem dX6_count_0 : decode cX6_count 0 = .ok (.iload_n 1, 1) := by decide +kernel
theorem dX6_count_1 : decode cX6_count 1 = .ok (.tableswitch 129 0 5 #[39, 47, 55, 66, 93, 111], 39) := by decide +kernel
theorem dX6_count_40 : decode cX6_count 40 = .ok (.aload_n 0, 1) := by decide +kernel
theorem dX6_count_41 : decode cX6_count 41 = .ok (.getfield 33, 3) := by decide +kernel
theorem dX6_count_44 : decode cX6_count 44 = .ok (.getfield 89, 3) := by decide +kernel
theorem dX6_count_47 : decode cX6_count 47 = .ok (.ireturn, 1) := by decide +kernel
theorem dX6_count_48 : decode cX6_count 48 = .ok (.aload_n 0, 1) := by decide +kernel
theorem dX6_count_49 : decode cX6_count 49 = .ok (.getfield 92, 3) := by decide +kernel
theorem dX6_count_52 : decode cX6_count 52 = .ok (.invokestatic 291, 3) := by decide +kernel
theorem dX6_count_55 : decode cX6_count 55 = .ok (.ireturn, 1) := by decide +kernel
theorem dX6_count_56 : decode cX6_count 56 = .ok (.aload_n 0, 1) := by decide +kernel
theorem dX6_count_57 : decode cX6_count 57 = .ok (.getfield 26, 3) := by decide +kernel
theorem dX6_count_60 : decode cX6_count 60 = .ok (.getfield 55, 3) := by decide +kernel
theorem dX6_count_63 : decode cX6_count 63 = .ok (.getfield 65, 3) := by decide +kernel
theorem dX6_count_66 : decode cX6_count 66 = .ok (.ireturn, 1) := by decide +kernel
theorem dX6_count_67 : decode cX6_count 67 = .ok (.aload_n 0, 1) := by decide +kernel
theorem dX6_count_68 : decode cX6_count 68 = .ok (.getfield 46, 3) := by decide +kernel
theorem dX6_count_71 : decode cX6_count 71 = .ok (.iconst 0, 1) := by decide +kernel
theorem dX6_count_72 : decode cX6_count 72 = .ok (.aaload, 1) := by decide +kernel
theorem dX6_count_73 : decode cX6_count 73 = .ok (.getfield 324, 3) := by decide +kernel
theorem dX6_count_76 : decode cX6_count 76 = .ok (.ifCond .eq 15, 3) := by decide +kernel
theorem dX6_count_79 : decode cX6_count 79 = .ok (.aload_n 0, 1) := by decide +kernel
theorem dX6_count_80 : decode cX6_count 80 = .ok (.getfield 46, 3) := by decide +kernel
theorem dX6_count_83 : decode cX6_count 83 = .ok (.iconst 0, 1) := by decide +kernel
theorem dX6_count_84 : decode cX6_count 84 = .ok (.aaload, 1) := by decide +kernel
theorem dX6_count_85 : decode cX6_count 85 = .ok (.getfield 328, 3) := by decide +kernel
theorem dX6_count_88 : decode cX6_count 88 = .ok (.goto 5, 3) := by decide +kernel
theorem dX6_count_91 : decode cX6_count 91 = .ok (.bipush (-4), 2) := by decide +kernel
theorem dX6_count_93 : decode cX6_count 93 = .ok (.ireturn, 1) := by decide +kernel
theorem dX6_count_94 : decode cX6_count 94 = .ok (.aload_n 0, 1) := by decide +kernel
theorem dX6_count_95 : decode cX6_count 95 = .ok (.getfield 10, 3) := by decide +kernel
theorem dX6_count_98 : decode cX6_count 98 = .ok (.getfield 209, 3) := by decide +kernel
theorem dX6_count_101 : decode cX6_count 101 = .ok (.aload_n 0, 1) := by decide +kernel
theorem dX6_count_102 : decode cX6_count 102 = .ok (.getfield 10, 3) := by decide +kernel
theorem dX6_count_105 : decode cX6_count 105 = .ok (.getfield 95, 3) := by decide +kernel
theorem dX6_count_108 : decode cX6_count 108 = .ok (.invokestatic 329, 3) := by decide +kernel
theorem dX6_count_111 : decode cX6_count 111 = .ok (.ireturn, 1) := by decide +kernel
theorem dX6_count_112 : decode cX6_count 112 = .ok (.aload_n 0, 1) := by decide +kernel
theorem dX6_count_113 : decode cX6_count 113 = .ok (.getfield 10, 3) := by decide +kernel
theorem dX6_count_116 : decode cX6_count 116 = .ok (.getfield 149, 3) := by decide +kernel
theorem dX6_count_119 : decode cX6_count 119 = .ok (.aload_n 0, 1) := by decide +kernel
theorem dX6_count_120 : decode cX6_count 120 = .ok (.getfield 10, 3) := by decide +kernel
theorem dX6_count_123 : decode cX6_count 123 = .ok (.getfield 98, 3) := by decide +kernel
theorem dX6_count_126 : decode cX6_count 126 = .ok (.invokestatic 329, 3) := by decide +kernel
theorem dX6_count_129 : decode cX6_count 129 = .ok (.ireturn, 1) := by decide +kernel
theorem dX6_count_130 : decode cX6_count 130 = .ok (.iconst (-1), 1) := by decide +kernel
theorem dX6_count_131 : decode cX6_count 131 = .ok (.ireturn, 1) := by decide +kernel
theorem dX6_within_0 : decode cX6_within 0 = .ok (.iload_n 0, 1) := by decide +kernel
theorem dX6_within_1 : decode cX6_within 1 = .ok (.iload_n 1, 1) := by decide +kernel
theorem dX6_within_2 : decode cX6_within 2 = .ok (.if_icmp .lt 12, 3) := by decide +kernel
theorem dX6_within_5 : decode cX6_within 5 = .ok (.iload_n 0, 1) := by decide +kernel
theorem dX6_within_6 : decode cX6_within 6 = .ok (.iload_n 2, 1) := by decide +kernel
theorem dX6_within_7 : decode cX6_within 7 = .ok (.if_icmp .gt 7, 3) := by decide +kernel
theorem dX6_within_10 : decode cX6_within 10 = .ok (.iconst 1, 1) := by decide +kernel
theorem dX6_within_11 : decode cX6_within 11 = .ok (.goto 4, 3) := by decide +kernel
theorem dX6_within_14 : decode cX6_within 14 = .ok (.iconst 0, 1) := by decide +kernel
theorem dX6_within_15 : decode cX6_within 15 = .ok (.ireturn, 1) := by decide +kernel
theorem dX6_bounded_0 : decode cX6_bounded 0 = .ok (.iconst 0, 1) := by decide +kernel
theorem dX6_bounded_1 : decode cX6_bounded 1 = .ok (.iload_n 1, 1) := by decide +kernel
theorem dX6_bounded_2 : decode cX6_bounded 2 = .ok (.iload_n 0, 1) := by decide +kernel
theorem dX6_bounded_3 : decode cX6_bounded 3 = .ok (.invokestatic 333, 3) := by decide +kernel
theorem dX6_bounded_6 : decode cX6_bounded 6 = .ok (.invokestatic 200, 3) := by decide +kernel
theorem dX6_bounded_9 : decode cX6_bounded 9 = .ok (.ireturn, 1) := by decide +kernel
theorem dX6_isWeekday_0 : decode cX6_isWeekday 0 = .ok (.iload_n 0, 1) := by decide +kernel
theorem dX6_isWeekday_1 : decode cX6_isWeekday 1 = .ok (.iconst 0, 1) := by decide +kernel
theorem dX6_isWeekday_2 : decode cX6_isWeekday 2 = .ok (.bipush 6, 2) := by decide +kernel
theorem dX6_isWeekday_4 : decode cX6_isWeekday 4 = .ok (.invokestatic 51, 3) := by decide +kernel
theorem dX6_isWeekday_7 : decode cX6_isWeekday 7 = .ok (.ireturn, 1) := by decide +kernel
theorem dX6_isAhead_0 : decode cX6_isAhead 0 = .ok (.iload_n 0, 1) := by decide +kernel
theorem dX6_isAhead_1 : decode cX6_isAhead 1 = .ok (.iconst 0, 1) := by decide +kernel
theorem dX6_isAhead_2 : decode cX6_isAhead 2 = .ok (.bipush 60, 2) := by decide +kernel
theorem dX6_isAhead_4 : decode cX6_isAhead 4 = .ok (.invokestatic 51, 3) := by decide +kernel
theorem dX6_isAhead_7 : decode cX6_isAhead 7 = .ok (.ireturn, 1) := by decide +kernel
theorem dX6_isSheet_0 : decode cX6_isSheet 0 = .ok (.iload_n 0, 1) := by decide +kernel
theorem dX6_isSheet_1 : decode cX6_isSheet 1 = .ok (.iconst 0, 1) := by decide +kernel
theorem dX6_isSheet_2 : decode cX6_isSheet 2 = .ok (.iconst 3, 1) := by decide +kernel
theorem dX6_isSheet_3 : decode cX6_isSheet 3 = .ok (.invokestatic 51, 3) := by decide +kernel
theorem dX6_isSheet_6 : decode cX6_isSheet 6 = .ok (.ireturn, 1) := by decide +kernel
theorem dX6_replace_0 : decode cX6_replace 0 = .ok (.aload_n 0, 1) := by decide +kernel
theorem dX6_replace_1 : decode cX6_replace 1 = .ok (.iload_n 1, 1) := by decide +kernel
theorem dX6_replace_2 : decode cX6_replace 2 = .ok (.iaload, 1) := by decide +kernel
theorem dX6_replace_3 : decode cX6_replace 3 = .ok (.istore_n 3, 1) := by decide +kernel
theorem dX6_replace_4 : decode cX6_replace 4 = .ok (.aload_n 0, 1) := by decide +kernel
theorem dX6_replace_5 : decode cX6_replace 5 = .ok (.iload_n 1, 1) := by decide +kernel
theorem dX6_replace_6 : decode cX6_replace 6 = .ok (.iload_n 2, 1) := by decide +kernel
theorem dX6_replace_7 : decode cX6_replace 7 = .ok (.iastore, 1) := by decide +kernel
theorem dX6_replace_8 : decode cX6_replace 8 = .ok (.iload_n 3, 1) := by decide +kernel
theorem dX6_replace_9 : decode cX6_replace 9 = .ok (.ireturn, 1) := by decide +kernel
theorem dX6_sumOf_0 : decode cX6_sumOf 0 = .ok (.iconst 0, 1) := by decide +kernel
theorem dX6_sumOf_1 : decode cX6_sumOf 1 = .ok (.istore_n 2, 1) := by decide +kernel
theorem dX6_sumOf_2 : decode cX6_sumOf 2 = .ok (.iconst 0, 1) := by decide +kernel
theorem dX6_sumOf_3 : decode cX6_sumOf 3 = .ok (.istore_n 3, 1) := by decide +kernel
theorem dX6_sumOf_4 : decode cX6_sumOf 4 = .ok (.iload_n 3, 1) := by decide +kernel
theorem dX6_sumOf_5 : decode cX6_sumOf 5 = .ok (.iload_n 1, 1) := by decide +kernel
theorem dX6_sumOf_6 : decode cX6_sumOf 6 = .ok (.if_icmp .ge 21, 3) := by decide +kernel
theorem dX6_sumOf_9 : decode cX6_sumOf 9 = .ok (.iload_n 3, 1) := by decide +kernel
theorem dX6_sumOf_10 : decode cX6_sumOf 10 = .ok (.aload_n 0, 1) := by decide +kernel
theorem dX6_sumOf_11 : decode cX6_sumOf 11 = .ok (.arraylength, 1) := by decide +kernel
theorem dX6_sumOf_12 : decode cX6_sumOf 12 = .ok (.if_icmp .ge 15, 3) := by decide +kernel
theorem dX6_sumOf_15 : decode cX6_sumOf 15 = .ok (.iload_n 2, 1) := by decide +kernel
theorem dX6_sumOf_16 : decode cX6_sumOf 16 = .ok (.aload_n 0, 1) := by decide +kernel
theorem dX6_sumOf_17 : decode cX6_sumOf 17 = .ok (.iload_n 3, 1) := by decide +kernel
theorem dX6_sumOf_18 : decode cX6_sumOf 18 = .ok (.iaload, 1) := by decide +kernel
theorem dX6_sumOf_19 : decode cX6_sumOf 19 = .ok (.iadd, 1) := by decide +kernel
theorem dX6_sumOf_20 : decode cX6_sumOf 20 = .ok (.istore_n 2, 1) := by decide +kernel
theorem dX6_sumOf_21 : decode cX6_sumOf 21 = .ok (.iinc 3 1, 3) := by decide +kernel
theorem dX6_sumOf_24 : decode cX6_sumOf 24 = .ok (.goto (-20), 3) := by decide +kernel
theorem dX6_sumOf_27 : decode cX6_sumOf 27 = .ok (.iload_n 2, 1) := by decide +kernel
theorem dX6_sumOf_28 : decode cX6_sumOf 28 = .ok (.ireturn, 1) := by decide +kernel
theorem dX6_copyOfNow_0 : decode cX6_copyOfNow 0 = .ok (.aload_n 0, 1) := by decide +kernel
theorem dX6_copyOfNow_1 : decode cX6_copyOfNow 1 = .ok (.getfield 16, 3) := by decide +kernel
theorem dX6_copyOfNow_4 : decode cX6_copyOfNow 4 = .ok (.aload_n 0, 1) := by decide +kernel
theorem dX6_copyOfNow_5 : decode cX6_copyOfNow 5 = .ok (.getfield 10, 3) := by decide +kernel
theorem dX6_copyOfNow_8 : decode cX6_copyOfNow 8 = .ok (.invokevirtual 85, 3) := by decide +kernel
theorem dX6_copyOfNow_11 : decode cX6_copyOfNow 11 = .ok (.aload_n 0, 1) := by decide +kernel
theorem dX6_copyOfNow_12 : decode cX6_copyOfNow 12 = .ok (.getfield 16, 3) := by decide +kernel
theorem dX6_copyOfNow_15 : decode cX6_copyOfNow 15 = .ok (.areturn, 1) := by decide +kernel
theorem dX6_sorrowBehind_0 : decode cX6_sorrowBehind 0 = .ok (.aload_n 0, 1) := by decide +kernel
theorem dX6_sorrowBehind_1 : decode cX6_sorrowBehind 1 = .ok (.iload_n 1, 1) := by decide +kernel
theorem dX6_sorrowBehind_2 : decode cX6_sorrowBehind 2 = .ok (.invokevirtual 189, 3) := by decide +kernel
theorem dX6_sorrowBehind_5 : decode cX6_sorrowBehind 5 = .ok (.aload_n 0, 1) := by decide +kernel
theorem dX6_sorrowBehind_6 : decode cX6_sorrowBehind 6 = .ok (.getfield 107, 3) := by decide +kernel
theorem dX6_sorrowBehind_9 : decode cX6_sorrowBehind 9 = .ok (.ireturn, 1) := by decide +kernel
theorem dX6_losesNoneOf_0 : decode cX6_losesNoneOf 0 = .ok (.aload_n 0, 1) := by decide +kernel
theorem dX6_losesNoneOf_1 : decode cX6_losesNoneOf 1 = .ok (.iload_n 1, 1) := by decide +kernel
theorem dX6_losesNoneOf_2 : decode cX6_losesNoneOf 2 = .ok (.invokevirtual 129, 3) := by decide +kernel
theorem dX6_losesNoneOf_5 : decode cX6_losesNoneOf 5 = .ok (.aload_n 0, 1) := by decide +kernel
theorem dX6_losesNoneOf_6 : decode cX6_losesNoneOf 6 = .ok (.getfield 119, 3) := by decide +kernel
theorem dX6_losesNoneOf_9 : decode cX6_losesNoneOf 9 = .ok (.iconst (-1), 1) := by decide +kernel
theorem dX6_losesNoneOf_10 : decode cX6_losesNoneOf 10 = .ok (.ixor, 1) := by decide +kernel
theorem dX6_losesNoneOf_11 : decode cX6_losesNoneOf 11 = .ok (.iand, 1) := by decide +kernel
theorem dX6_losesNoneOf_12 : decode cX6_losesNoneOf 12 = .ok (.istore_n 3, 1) := by decide +kernel
theorem dX6_losesNoneOf_13 : decode cX6_losesNoneOf 13 = .ok (.iconst 0, 1) := by decide +kernel
theorem dX6_losesNoneOf_14 : decode cX6_losesNoneOf 14 = .ok (.istore 4, 2) := by decide +kernel
theorem dX6_losesNoneOf_16 : decode cX6_losesNoneOf 16 = .ok (.iload 4, 2) := by decide +kernel
theorem dX6_losesNoneOf_18 : decode cX6_losesNoneOf 18 = .ok (.iload_n 2, 1) := by decide +kernel
theorem dX6_losesNoneOf_19 : decode cX6_losesNoneOf 19 = .ok (.if_icmp .ge 25, 3) := by decide +kernel
theorem dX6_losesNoneOf_22 : decode cX6_losesNoneOf 22 = .ok (.aload_n 0, 1) := by decide +kernel
theorem dX6_losesNoneOf_23 : decode cX6_losesNoneOf 23 = .ok (.iconst 1, 1) := by decide +kernel
theorem dX6_losesNoneOf_24 : decode cX6_losesNoneOf 24 = .ok (.invokevirtual 189, 3) := by decide +kernel
theorem dX6_losesNoneOf_27 : decode cX6_losesNoneOf 27 = .ok (.aload_n 0, 1) := by decide +kernel
theorem dX6_losesNoneOf_28 : decode cX6_losesNoneOf 28 = .ok (.getfield 119, 3) := by decide +kernel
theorem dX6_losesNoneOf_31 : decode cX6_losesNoneOf 31 = .ok (.iload_n 3, 1) := by decide +kernel
theorem dX6_losesNoneOf_32 : decode cX6_losesNoneOf 32 = .ok (.iand, 1) := by decide +kernel
theorem dX6_losesNoneOf_33 : decode cX6_losesNoneOf 33 = .ok (.ifCond .eq 5, 3) := by decide +kernel
theorem dX6_losesNoneOf_36 : decode cX6_losesNoneOf 36 = .ok (.iconst 0, 1) := by decide +kernel
theorem dX6_losesNoneOf_37 : decode cX6_losesNoneOf 37 = .ok (.ireturn, 1) := by decide +kernel
theorem dX6_losesNoneOf_38 : decode cX6_losesNoneOf 38 = .ok (.iinc 4 1, 3) := by decide +kernel
theorem dX6_losesNoneOf_41 : decode cX6_losesNoneOf 41 = .ok (.goto (-25), 3) := by decide +kernel
theorem dX6_losesNoneOf_44 : decode cX6_losesNoneOf 44 = .ok (.iconst 1, 1) := by decide +kernel
theorem dX6_losesNoneOf_45 : decode cX6_losesNoneOf 45 = .ok (.ireturn, 1) := by decide +kernel
theorem dX6_bestOrSorrow_0 : decode cX6_bestOrSorrow 0 = .ok (.iload_n 1, 1) := by decide +kernel
theorem dX6_bestOrSorrow_1 : decode cX6_bestOrSorrow 1 = .ok (.bipush (-4), 2) := by decide +kernel
theorem dX6_bestOrSorrow_3 : decode cX6_bestOrSorrow 3 = .ok (.if_icmp .eq 7, 3) := by decide +kernel
theorem dX6_bestOrSorrow_6 : decode cX6_bestOrSorrow 6 = .ok (.iload_n 3, 1) := by decide +kernel
theorem dX6_bestOrSorrow_7 : decode cX6_bestOrSorrow 7 = .ok (.ifCond .ne 7, 3) := by decide +kernel
theorem dX6_bestOrSorrow_10 : decode cX6_bestOrSorrow 10 = .ok (.iload_n 1, 1) := by decide +kernel
theorem dX6_bestOrSorrow_11 : decode cX6_bestOrSorrow 11 = .ok (.goto 12, 3) := by decide +kernel
theorem dX6_bestOrSorrow_14 : decode cX6_bestOrSorrow 14 = .ok (.iload_n 2, 1) := by decide +kernel
theorem dX6_bestOrSorrow_15 : decode cX6_bestOrSorrow 15 = .ok (.aload_n 0, 1) := by decide +kernel
theorem dX6_bestOrSorrow_16 : decode cX6_bestOrSorrow 16 = .ok (.getfield 10, 3) := by decide +kernel
theorem dX6_bestOrSorrow_19 : decode cX6_bestOrSorrow 19 = .ok (.getfield 107, 3) := by decide +kernel
theorem dX6_bestOrSorrow_22 : decode cX6_bestOrSorrow 22 = .ok (.isub, 1) := by decide +kernel
theorem dX6_bestOrSorrow_23 : decode cX6_bestOrSorrow 23 = .ok (.ireturn, 1) := by decide +kernel
theorem dX6_dearestSet_0 : decode cX6_dearestSet 0 = .ok (.aload_n 0, 1) := by decide +kernel
theorem dX6_dearestSet_1 : decode cX6_dearestSet 1 = .ok (.getfield 10, 3) := by decide +kernel
theorem dX6_dearestSet_4 : decode cX6_dearestSet 4 = .ok (.iload_n 1, 1) := by decide +kernel
theorem dX6_dearestSet_5 : decode cX6_dearestSet 5 = .ok (.invokevirtual 129, 3) := by decide +kernel
theorem dX6_dearestSet_8 : decode cX6_dearestSet 8 = .ok (.aload_n 0, 1) := by decide +kernel
theorem dX6_dearestSet_9 : decode cX6_dearestSet 9 = .ok (.getfield 10, 3) := by decide +kernel
theorem dX6_dearestSet_12 : decode cX6_dearestSet 12 = .ok (.getfield 119, 3) := by decide +kernel
theorem dX6_dearestSet_15 : decode cX6_dearestSet 15 = .ok (.iconst (-1), 1) := by decide +kernel
theorem dX6_dearestSet_16 : decode cX6_dearestSet 16 = .ok (.ixor, 1) := by decide +kernel
theorem dX6_dearestSet_17 : decode cX6_dearestSet 17 = .ok (.iand, 1) := by decide +kernel
theorem dX6_dearestSet_18 : decode cX6_dearestSet 18 = .ok (.istore_n 2, 1) := by decide +kernel
theorem dX6_dearestSet_19 : decode cX6_dearestSet 19 = .ok (.iconst 0, 1) := by decide +kernel
theorem dX6_dearestSet_20 : decode cX6_dearestSet 20 = .ok (.istore_n 3, 1) := by decide +kernel
theorem dX6_dearestSet_21 : decode cX6_dearestSet 21 = .ok (.iconst 0, 1) := by decide +kernel
theorem dX6_dearestSet_22 : decode cX6_dearestSet 22 = .ok (.istore 4, 2) := by decide +kernel
theorem dX6_dearestSet_24 : decode cX6_dearestSet 24 = .ok (.iconst 1, 1) := by decide +kernel
theorem dX6_dearestSet_25 : decode cX6_dearestSet 25 = .ok (.istore 5, 2) := by decide +kernel
theorem dX6_dearestSet_27 : decode cX6_dearestSet 27 = .ok (.iload 5, 2) := by decide +kernel
theorem dX6_dearestSet_29 : decode cX6_dearestSet 29 = .ok (.sipush 256, 3) := by decide +kernel
theorem dX6_dearestSet_32 : decode cX6_dearestSet 32 = .ok (.if_icmp .ge 64, 3) := by decide +kernel
theorem dX6_dearestSet_35 : decode cX6_dearestSet 35 = .ok (.iload 5, 2) := by decide +kernel
theorem dX6_dearestSet_37 : decode cX6_dearestSet 37 = .ok (.iload_n 2, 1) := by decide +kernel
theorem dX6_dearestSet_38 : decode cX6_dearestSet 38 = .ok (.iconst (-1), 1) := by decide +kernel
theorem dX6_dearestSet_39 : decode cX6_dearestSet 39 = .ok (.ixor, 1) := by decide +kernel
theorem dX6_dearestSet_40 : decode cX6_dearestSet 40 = .ok (.iand, 1) := by decide +kernel
theorem dX6_dearestSet_41 : decode cX6_dearestSet 41 = .ok (.ifCond .ne 49, 3) := by decide +kernel
theorem dX6_dearestSet_44 : decode cX6_dearestSet 44 = .ok (.aload_n 0, 1) := by decide +kernel
theorem dX6_dearestSet_45 : decode cX6_dearestSet 45 = .ok (.getfield 10, 3) := by decide +kernel
theorem dX6_dearestSet_48 : decode cX6_dearestSet 48 = .ok (.iload 5, 2) := by decide +kernel
theorem dX6_dearestSet_50 : decode cX6_dearestSet 50 = .ok (.invokevirtual 224, 3) := by decide +kernel
theorem dX6_dearestSet_53 : decode cX6_dearestSet 53 = .ok (.aload_n 0, 1) := by decide +kernel
theorem dX6_dearestSet_54 : decode cX6_dearestSet 54 = .ok (.getfield 10, 3) := by decide +kernel
theorem dX6_dearestSet_57 : decode cX6_dearestSet 57 = .ok (.getfield 209, 3) := by decide +kernel
theorem dX6_dearestSet_60 : decode cX6_dearestSet 60 = .ok (.iload_n 1, 1) := by decide +kernel
theorem dX6_dearestSet_61 : decode cX6_dearestSet 61 = .ok (.iaload, 1) := by decide +kernel
theorem dX6_dearestSet_62 : decode cX6_dearestSet 62 = .ok (.if_icmp .gt 28, 3) := by decide +kernel
theorem dX6_dearestSet_65 : decode cX6_dearestSet 65 = .ok (.aload_n 0, 1) := by decide +kernel
theorem dX6_dearestSet_66 : decode cX6_dearestSet 66 = .ok (.getfield 10, 3) := by decide +kernel
theorem dX6_dearestSet_69 : decode cX6_dearestSet 69 = .ok (.iload 5, 2) := by decide +kernel
theorem dX6_dearestSet_71 : decode cX6_dearestSet 71 = .ok (.invokevirtual 221, 3) := by decide +kernel
theorem dX6_dearestSet_74 : decode cX6_dearestSet 74 = .ok (.istore 6, 2) := by decide +kernel
theorem dX6_dearestSet_76 : decode cX6_dearestSet 76 = .ok (.iload 6, 2) := by decide +kernel
theorem dX6_dearestSet_78 : decode cX6_dearestSet 78 = .ok (.iload 4, 2) := by decide +kernel
theorem dX6_dearestSet_80 : decode cX6_dearestSet 80 = .ok (.if_icmp .le 10, 3) := by decide +kernel
theorem dX6_dearestSet_83 : decode cX6_dearestSet 83 = .ok (.iload 6, 2) := by decide +kernel
theorem dX6_dearestSet_85 : decode cX6_dearestSet 85 = .ok (.istore 4, 2) := by decide +kernel
theorem dX6_dearestSet_87 : decode cX6_dearestSet 87 = .ok (.iload 5, 2) := by decide +kernel
theorem dX6_dearestSet_89 : decode cX6_dearestSet 89 = .ok (.istore_n 3, 1) := by decide +kernel
theorem dX6_dearestSet_90 : decode cX6_dearestSet 90 = .ok (.iinc 5 1, 3) := by decide +kernel
theorem dX6_dearestSet_93 : decode cX6_dearestSet 93 = .ok (.goto (-66), 3) := by decide +kernel
theorem dX6_dearestSet_96 : decode cX6_dearestSet 96 = .ok (.iload_n 3, 1) := by decide +kernel
theorem dX6_dearestSet_97 : decode cX6_dearestSet 97 = .ok (.ireturn, 1) := by decide +kernel
theorem dX6_power_0 : decode cX6_power 0 = .ok (.lconst 1, 1) := by decide +kernel
theorem dX6_power_1 : decode cX6_power 1 = .ok (.lstore_n 2, 1) := by decide +kernel
theorem dX6_power_2 : decode cX6_power 2 = .ok (.iconst 0, 1) := by decide +kernel
theorem dX6_power_3 : decode cX6_power 3 = .ok (.istore 4, 2) := by decide +kernel
theorem dX6_power_5 : decode cX6_power 5 = .ok (.iload 4, 2) := by decide +kernel
theorem dX6_power_7 : decode cX6_power 7 = .ok (.iload_n 1, 1) := by decide +kernel
theorem dX6_power_8 : decode cX6_power 8 = .ok (.if_icmp .ge 14, 3) := by decide +kernel
theorem dX6_power_11 : decode cX6_power 11 = .ok (.lload_n 2, 1) := by decide +kernel
theorem dX6_power_12 : decode cX6_power 12 = .ok (.iload_n 0, 1) := by decide +kernel
theorem dX6_power_13 : decode cX6_power 13 = .ok (.i2l, 1) := by decide +kernel
theorem dX6_power_14 : decode cX6_power 14 = .ok (.lmul, 1) := by decide +kernel
theorem dX6_power_15 : decode cX6_power 15 = .ok (.lstore_n 2, 1) := by decide +kernel
theorem dX6_power_16 : decode cX6_power 16 = .ok (.iinc 4 1, 3) := by decide +kernel
theorem dX6_power_19 : decode cX6_power 19 = .ok (.goto (-14), 3) := by decide +kernel
theorem dX6_power_22 : decode cX6_power 22 = .ok (.lload_n 2, 1) := by decide +kernel
theorem dX6_power_23 : decode cX6_power 23 = .ok (.lreturn, 1) := by decide +kernel
theorem dX6_weightOf_0 : decode cX6_weightOf 0 = .ok (.iload_n 0, 1) := by decide +kernel
theorem dX6_weightOf_1 : decode cX6_weightOf 1 = .ok (.invokestatic 291, 3) := by decide +kernel
theorem dX6_weightOf_4 : decode cX6_weightOf 4 = .ok (.istore_n 3, 1) := by decide +kernel
theorem dX6_weightOf_5 : decode cX6_weightOf 5 = .ok (.iload_n 1, 1) := by decide +kernel
theorem dX6_weightOf_6 : decode cX6_weightOf 6 = .ok (.iload_n 3, 1) := by decide +kernel
theorem dX6_weightOf_7 : decode cX6_weightOf 7 = .ok (.invokestatic 263, 3) := by decide +kernel
theorem dX6_weightOf_10 : decode cX6_weightOf 10 = .ok (.bipush 10, 2) := by decide +kernel
theorem dX6_weightOf_12 : decode cX6_weightOf 12 = .ok (.iload_n 1, 1) := by decide +kernel
theorem dX6_weightOf_13 : decode cX6_weightOf 13 = .ok (.isub, 1) := by decide +kernel
theorem dX6_weightOf_14 : decode cX6_weightOf 14 = .ok (.iload_n 2, 1) := by decide +kernel
theorem dX6_weightOf_15 : decode cX6_weightOf 15 = .ok (.iload_n 3, 1) := by decide +kernel
theorem dX6_weightOf_16 : decode cX6_weightOf 16 = .ok (.isub, 1) := by decide +kernel
theorem dX6_weightOf_17 : decode cX6_weightOf 17 = .ok (.invokestatic 263, 3) := by decide +kernel
theorem dX6_weightOf_20 : decode cX6_weightOf 20 = .ok (.lmul, 1) := by decide +kernel
theorem dX6_weightOf_21 : decode cX6_weightOf 21 = .ok (.lreturn, 1) := by decide +kernel
theorem dX6_behindStorms_0 : decode cX6_behindStorms 0 = .ok (.aload_n 0, 1) := by decide +kernel
theorem dX6_behindStorms_1 : decode cX6_behindStorms 1 = .ok (.invokevirtual 196, 3) := by decide +kernel
theorem dX6_behindStorms_4 : decode cX6_behindStorms 4 = .ok (.astore_n 3, 1) := by decide +kernel
theorem dX6_behindStorms_5 : decode cX6_behindStorms 5 = .ok (.iconst 0, 1) := by decide +kernel
theorem dX6_behindStorms_6 : decode cX6_behindStorms 6 = .ok (.istore 4, 2) := by decide +kernel
theorem dX6_behindStorms_8 : decode cX6_behindStorms 8 = .ok (.iload 4, 2) := by decide +kernel
theorem dX6_behindStorms_10 : decode cX6_behindStorms 10 = .ok (.iload_n 2, 1) := by decide +kernel
theorem dX6_behindStorms_11 : decode cX6_behindStorms 11 = .ok (.if_icmp .ge 34, 3) := by decide +kernel
theorem dX6_behindStorms_14 : decode cX6_behindStorms 14 = .ok (.iload_n 1, 1) := by decide +kernel
theorem dX6_behindStorms_15 : decode cX6_behindStorms 15 = .ok (.iload 4, 2) := by decide +kernel
theorem dX6_behindStorms_17 : decode cX6_behindStorms 17 = .ok (.ishr, 1) := by decide +kernel
theorem dX6_behindStorms_18 : decode cX6_behindStorms 18 = .ok (.iconst 1, 1) := by decide +kernel
theorem dX6_behindStorms_19 : decode cX6_behindStorms 19 = .ok (.iand, 1) := by decide +kernel
theorem dX6_behindStorms_20 : decode cX6_behindStorms 20 = .ok (.iconst 2, 1) := by decide +kernel
theorem dX6_behindStorms_21 : decode cX6_behindStorms 21 = .ok (.imul, 1) := by decide +kernel
theorem dX6_behindStorms_22 : decode cX6_behindStorms 22 = .ok (.istore 5, 2) := by decide +kernel
theorem dX6_behindStorms_24 : decode cX6_behindStorms 24 = .ok (.aload_n 3, 1) := by decide +kernel
theorem dX6_behindStorms_25 : decode cX6_behindStorms 25 = .ok (.aload_n 3, 1) := by decide +kernel
theorem dX6_behindStorms_26 : decode cX6_behindStorms 26 = .ok (.invokevirtual 336, 3) := by decide +kernel
theorem dX6_behindStorms_29 : decode cX6_behindStorms 29 = .ok (.iload 5, 2) := by decide +kernel
theorem dX6_behindStorms_31 : decode cX6_behindStorms 31 = .ok (.iadd, 1) := by decide +kernel
theorem dX6_behindStorms_32 : decode cX6_behindStorms 32 = .ok (.aload_n 3, 1) := by decide +kernel
theorem dX6_behindStorms_33 : decode cX6_behindStorms 33 = .ok (.getfield 110, 3) := by decide +kernel
theorem dX6_behindStorms_36 : decode cX6_behindStorms 36 = .ok (.invokevirtual 300, 3) := by decide +kernel
theorem dX6_behindStorms_39 : decode cX6_behindStorms 39 = .ok (.iinc 4 1, 3) := by decide +kernel
theorem dX6_behindStorms_42 : decode cX6_behindStorms 42 = .ok (.goto (-34), 3) := by decide +kernel
theorem dX6_behindStorms_45 : decode cX6_behindStorms 45 = .ok (.aload_n 3, 1) := by decide +kernel
theorem dX6_behindStorms_46 : decode cX6_behindStorms 46 = .ok (.areturn, 1) := by decide +kernel
theorem dX6_commonDivisor_0 : decode cX6_commonDivisor 0 = .ok (.lload_n 0, 1) := by decide +kernel
theorem dX6_commonDivisor_1 : decode cX6_commonDivisor 1 = .ok (.lstore 4, 2) := by decide +kernel
theorem dX6_commonDivisor_3 : decode cX6_commonDivisor 3 = .ok (.lload_n 2, 1) := by decide +kernel
theorem dX6_commonDivisor_4 : decode cX6_commonDivisor 4 = .ok (.lstore 6, 2) := by decide +kernel
theorem dX6_commonDivisor_6 : decode cX6_commonDivisor 6 = .ok (.iconst 0, 1) := by decide +kernel
theorem dX6_commonDivisor_7 : decode cX6_commonDivisor 7 = .ok (.istore 8, 2) := by decide +kernel
theorem dX6_commonDivisor_9 : decode cX6_commonDivisor 9 = .ok (.iload 8, 2) := by decide +kernel
theorem dX6_commonDivisor_11 : decode cX6_commonDivisor 11 = .ok (.bipush 100, 2) := by decide +kernel
theorem dX6_commonDivisor_13 : decode cX6_commonDivisor 13 = .ok (.if_icmp .ge 31, 3) := by decide +kernel
theorem dX6_commonDivisor_16 : decode cX6_commonDivisor 16 = .ok (.lload 6, 2) := by decide +kernel
theorem dX6_commonDivisor_18 : decode cX6_commonDivisor 18 = .ok (.lconst 0, 1) := by decide +kernel
theorem dX6_commonDivisor_19 : decode cX6_commonDivisor 19 = .ok (.lcmp, 1) := by decide +kernel
theorem dX6_commonDivisor_20 : decode cX6_commonDivisor 20 = .ok (.ifCond .eq 24, 3) := by decide +kernel
theorem dX6_commonDivisor_23 : decode cX6_commonDivisor 23 = .ok (.lload 4, 2) := by decide +kernel
theorem dX6_commonDivisor_25 : decode cX6_commonDivisor 25 = .ok (.lload 6, 2) := by decide +kernel
theorem dX6_commonDivisor_27 : decode cX6_commonDivisor 27 = .ok (.lrem, 1) := by decide +kernel
theorem dX6_commonDivisor_28 : decode cX6_commonDivisor 28 = .ok (.lstore 9, 2) := by decide +kernel
theorem dX6_commonDivisor_30 : decode cX6_commonDivisor 30 = .ok (.lload 6, 2) := by decide +kernel
theorem dX6_commonDivisor_32 : decode cX6_commonDivisor 32 = .ok (.lstore 4, 2) := by decide +kernel
theorem dX6_commonDivisor_34 : decode cX6_commonDivisor 34 = .ok (.lload 9, 2) := by decide +kernel
theorem dX6_commonDivisor_36 : decode cX6_commonDivisor 36 = .ok (.lstore 6, 2) := by decide +kernel
theorem dX6_commonDivisor_38 : decode cX6_commonDivisor 38 = .ok (.iinc 8 1, 3) := by decide +kernel
theorem dX6_commonDivisor_41 : decode cX6_commonDivisor 41 = .ok (.goto (-32), 3) := by decide +kernel
theorem dX6_commonDivisor_44 : decode cX6_commonDivisor 44 = .ok (.lload 4, 2) := by decide +kernel
theorem dX6_commonDivisor_46 : decode cX6_commonDivisor 46 = .ok (.lreturn, 1) := by decide +kernel
theorem dX6_fractionPart_0 : decode cX6_fractionPart 0 = .ok (.lload_n 0, 1) := by decide +kernel
theorem dX6_fractionPart_1 : decode cX6_fractionPart 1 = .ok (.lload_n 2, 1) := by decide +kernel
theorem dX6_fractionPart_2 : decode cX6_fractionPart 2 = .ok (.invokestatic 339, 3) := by decide +kernel
theorem dX6_fractionPart_5 : decode cX6_fractionPart 5 = .ok (.lstore 5, 2) := by decide +kernel
theorem dX6_fractionPart_7 : decode cX6_fractionPart 7 = .ok (.lload 5, 2) := by decide +kernel
theorem dX6_fractionPart_9 : decode cX6_fractionPart 9 = .ok (.lconst 0, 1) := by decide +kernel
theorem dX6_fractionPart_10 : decode cX6_fractionPart 10 = .ok (.lcmp, 1) := by decide +kernel
theorem dX6_fractionPart_11 : decode cX6_fractionPart 11 = .ok (.ifCond .ne 5, 3) := by decide +kernel
theorem dX6_fractionPart_14 : decode cX6_fractionPart 14 = .ok (.lconst 0, 1) := by decide +kernel
theorem dX6_fractionPart_15 : decode cX6_fractionPart 15 = .ok (.lreturn, 1) := by decide +kernel
theorem dX6_fractionPart_16 : decode cX6_fractionPart 16 = .ok (.iload 4, 2) := by decide +kernel
theorem dX6_fractionPart_18 : decode cX6_fractionPart 18 = .ok (.ifCond .ne 7, 3) := by decide +kernel
theorem dX6_fractionPart_21 : decode cX6_fractionPart 21 = .ok (.lload_n 0, 1) := by decide +kernel
theorem dX6_fractionPart_22 : decode cX6_fractionPart 22 = .ok (.goto 4, 3) := by decide +kernel
theorem dX6_fractionPart_25 : decode cX6_fractionPart 25 = .ok (.lload_n 2, 1) := by decide +kernel
theorem dX6_fractionPart_26 : decode cX6_fractionPart 26 = .ok (.lload 5, 2) := by decide +kernel
theorem dX6_fractionPart_28 : decode cX6_fractionPart 28 = .ok (.ldiv, 1) := by decide +kernel
theorem dX6_fractionPart_29 : decode cX6_fractionPart 29 = .ok (.lreturn, 1) := by decide +kernel
theorem dX6_tellRooms_0 : decode cX6_tellRooms 0 = .ok (.aload_n 0, 1) := by decide +kernel
theorem dX6_tellRooms_1 : decode cX6_tellRooms 1 = .ok (.getfield 40, 3) := by decide +kernel
theorem dX6_tellRooms_4 : decode cX6_tellRooms 4 = .ok (.invokevirtual 274, 3) := by decide +kernel
theorem dX6_tellRooms_7 : decode cX6_tellRooms 7 = .ok (.iconst 0, 1) := by decide +kernel
theorem dX6_tellRooms_8 : decode cX6_tellRooms 8 = .ok (.istore_n 3, 1) := by decide +kernel
theorem dX6_tellRooms_9 : decode cX6_tellRooms 9 = .ok (.iload_n 3, 1) := by decide +kernel
theorem dX6_tellRooms_10 : decode cX6_tellRooms 10 = .ok (.bipush 31, 2) := by decide +kernel
theorem dX6_tellRooms_12 : decode cX6_tellRooms 12 = .ok (.if_icmp .ge 33, 3) := by decide +kernel
theorem dX6_tellRooms_15 : decode cX6_tellRooms 15 = .ok (.aload_n 0, 1) := by decide +kernel
theorem dX6_tellRooms_16 : decode cX6_tellRooms 16 = .ok (.invokevirtual 196, 3) := by decide +kernel
theorem dX6_tellRooms_19 : decode cX6_tellRooms 19 = .ok (.astore 4, 2) := by decide +kernel
theorem dX6_tellRooms_21 : decode cX6_tellRooms 21 = .ok (.aload 4, 2) := by decide +kernel
theorem dX6_tellRooms_23 : decode cX6_tellRooms 23 = .ok (.getfield 209, 3) := by decide +kernel
theorem dX6_tellRooms_26 : decode cX6_tellRooms 26 = .ok (.iload_n 1, 1) := by decide +kernel
theorem dX6_tellRooms_27 : decode cX6_tellRooms 27 = .ok (.iload_n 3, 1) := by decide +kernel
theorem dX6_tellRooms_28 : decode cX6_tellRooms 28 = .ok (.iastore, 1) := by decide +kernel
theorem dX6_tellRooms_29 : decode cX6_tellRooms 29 = .ok (.aload_n 0, 1) := by decide +kernel
theorem dX6_tellRooms_30 : decode cX6_tellRooms 30 = .ok (.getfield 40, 3) := by decide +kernel
theorem dX6_tellRooms_33 : decode cX6_tellRooms 33 = .ok (.aload 4, 2) := by decide +kernel
theorem dX6_tellRooms_35 : decode cX6_tellRooms 35 = .ok (.iload_n 2, 1) := by decide +kernel
theorem dX6_tellRooms_36 : decode cX6_tellRooms 36 = .ok (.invokevirtual 280, 3) := by decide +kernel
theorem dX6_tellRooms_39 : decode cX6_tellRooms 39 = .ok (.iinc 3 1, 3) := by decide +kernel
theorem dX6_tellRooms_42 : decode cX6_tellRooms 42 = .ok (.goto (-33), 3) := by decide +kernel
theorem dX6_tellRooms_45 : decode cX6_tellRooms 45 = .ok (.return_, 1) := by decide +kernel
