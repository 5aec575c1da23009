theorem dX7_layBack_31 : decode cX7_layBack 31 = .ok (.iconst 5, 1) := by decide +kernel
theorem dX7_layBack_32 : decode cX7_layBack 32 = .ok (.if_icmp .ge 33, 3) := by decide +kernel
theorem dX7_layBack_35 : decode cX7_layBack 35 = .ok (.aload_n 0, 1) := by decide +kernel
theorem dX7_layBack_36 : decode cX7_layBack 36 = .ok (.getfield 13, 3) := by decide +kernel
theorem dX7_layBack_39 : decode cX7_layBack 39 = .ok (.iload_n 3, 1) := by decide +kernel
theorem dX7_layBack_40 : decode cX7_layBack 40 = .ok (.aload_n 1, 1) := by decide +kernel
theorem dX7_layBack_41 : decode cX7_layBack 41 = .ok (.iload_n 2, 1) := by decide +kernel
theorem dX7_layBack_42 : decode cX7_layBack 42 = .ok (.iinc 2 1, 3) := by decide +kernel
theorem dX7_layBack_45 : decode cX7_layBack 45 = .ok (.iaload, 1) := by decide +kernel
theorem dX7_layBack_46 : decode cX7_layBack 46 = .ok (.iastore, 1) := by decide +kernel
theorem dX7_layBack_47 : decode cX7_layBack 47 = .ok (.aload_n 0, 1) := by decide +kernel
theorem dX7_layBack_48 : decode cX7_layBack 48 = .ok (.getfield 16, 3) := by decide +kernel
theorem dX7_layBack_51 : decode cX7_layBack 51 = .ok (.iload_n 3, 1) := by decide +kernel
theorem dX7_layBack_52 : decode cX7_layBack 52 = .ok (.aload_n 1, 1) := by decide +kernel
theorem dX7_layBack_53 : decode cX7_layBack 53 = .ok (.iload_n 2, 1) := by decide +kernel
theorem dX7_layBack_54 : decode cX7_layBack 54 = .ok (.iinc 2 1, 3) := by decide +kernel
theorem dX7_layBack_57 : decode cX7_layBack 57 = .ok (.iaload, 1) := by decide +kernel
theorem dX7_layBack_58 : decode cX7_layBack 58 = .ok (.iastore, 1) := by decide +kernel
theorem dX7_layBack_59 : decode cX7_layBack 59 = .ok (.iinc 3 1, 3) := by decide +kernel
theorem dX7_layBack_62 : decode cX7_layBack 62 = .ok (.goto (-32), 3) := by decide +kernel
theorem dX7_layBack_65 : decode cX7_layBack 65 = .ok (.iconst 0, 1) := by decide +kernel
theorem dX7_layBack_66 : decode cX7_layBack 66 = .ok (.istore_n 3, 1) := by decide +kernel
theorem dX7_layBack_67 : decode cX7_layBack 67 = .ok (.iload_n 3, 1) := by decide +kernel
theorem dX7_layBack_68 : decode cX7_layBack 68 = .ok (.bipush 10, 2) := by decide +kernel
theorem dX7_layBack_70 : decode cX7_layBack 70 = .ok (.if_icmp .ge 45, 3) := by decide +kernel
theorem dX7_layBack_73 : decode cX7_layBack 73 = .ok (.aload_n 0, 1) := by decide +kernel
theorem dX7_layBack_74 : decode cX7_layBack 74 = .ok (.getfield 19, 3) := by decide +kernel
theorem dX7_layBack_77 : decode cX7_layBack 77 = .ok (.iload_n 3, 1) := by decide +kernel
theorem dX7_layBack_78 : decode cX7_layBack 78 = .ok (.aload_n 1, 1) := by decide +kernel
theorem dX7_layBack_79 : decode cX7_layBack 79 = .ok (.iload_n 2, 1) := by decide +kernel
theorem dX7_layBack_80 : decode cX7_layBack 80 = .ok (.iinc 2 1, 3) := by decide +kernel
theorem dX7_layBack_83 : decode cX7_layBack 83 = .ok (.iaload, 1) := by decide +kernel
theorem dX7_layBack_84 : decode cX7_layBack 84 = .ok (.iastore, 1) := by decide +kernel
theorem dX7_layBack_85 : decode cX7_layBack 85 = .ok (.aload_n 0, 1) := by decide +kernel
theorem dX7_layBack_86 : decode cX7_layBack 86 = .ok (.getfield 22, 3) := by decide +kernel
theorem dX7_layBack_89 : decode cX7_layBack 89 = .ok (.iload_n 3, 1) := by decide +kernel
theorem dX7_layBack_90 : decode cX7_layBack 90 = .ok (.aload_n 1, 1) := by decide +kernel
theorem dX7_layBack_91 : decode cX7_layBack 91 = .ok (.iload_n 2, 1) := by decide +kernel
theorem dX7_layBack_92 : decode cX7_layBack 92 = .ok (.iinc 2 1, 3) := by decide +kernel
theorem dX7_layBack_95 : decode cX7_layBack 95 = .ok (.iaload, 1) := by decide +kernel
theorem dX7_layBack_96 : decode cX7_layBack 96 = .ok (.iastore, 1) := by decide +kernel
theorem dX7_layBack_97 : decode cX7_layBack 97 = .ok (.aload_n 0, 1) := by decide +kernel
theorem dX7_layBack_98 : decode cX7_layBack 98 = .ok (.getfield 25, 3) := by decide +kernel
theorem dX7_layBack_101 : decode cX7_layBack 101 = .ok (.iload_n 3, 1) := by decide +kernel
theorem dX7_layBack_102 : decode cX7_layBack 102 = .ok (.aload_n 1, 1) := by decide +kernel
theorem dX7_layBack_103 : decode cX7_layBack 103 = .ok (.iload_n 2, 1) := by decide +kernel
theorem dX7_layBack_104 : decode cX7_layBack 104 = .ok (.iinc 2 1, 3) := by decide +kernel
theorem dX7_layBack_107 : decode cX7_layBack 107 = .ok (.iaload, 1) := by decide +kernel
theorem dX7_layBack_108 : decode cX7_layBack 108 = .ok (.iastore, 1) := by decide +kernel
theorem dX7_layBack_109 : decode cX7_layBack 109 = .ok (.iinc 3 1, 3) := by decide +kernel
theorem dX7_layBack_112 : decode cX7_layBack 112 = .ok (.goto (-45), 3) := by decide +kernel
theorem dX7_layBack_115 : decode cX7_layBack 115 = .ok (.aload_n 0, 1) := by decide +kernel
theorem dX7_layBack_116 : decode cX7_layBack 116 = .ok (.aload_n 1, 1) := by decide +kernel
theorem dX7_layBack_117 : decode cX7_layBack 117 = .ok (.iload_n 2, 1) := by decide +kernel
theorem dX7_layBack_118 : decode cX7_layBack 118 = .ok (.iaload, 1) := by decide +kernel
theorem dX7_layBack_119 : decode cX7_layBack 119 = .ok (.putfield 93, 3) := by decide +kernel
theorem dX7_layBack_122 : decode cX7_layBack 122 = .ok (.aload_n 0, 1) := by decide +kernel
theorem dX7_layBack_123 : decode cX7_layBack 123 = .ok (.aload_n 1, 1) := by decide +kernel
theorem dX7_layBack_124 : decode cX7_layBack 124 = .ok (.iload_n 2, 1) := by decide +kernel
theorem dX7_layBack_125 : decode cX7_layBack 125 = .ok (.iconst 1, 1) := by decide +kernel
theorem dX7_layBack_126 : decode cX7_layBack 126 = .ok (.iadd, 1) := by decide +kernel
theorem dX7_layBack_127 : decode cX7_layBack 127 = .ok (.iaload, 1) := by decide +kernel
theorem dX7_layBack_128 : decode cX7_layBack 128 = .ok (.putfield 127, 3) := by decide +kernel
theorem dX7_layBack_131 : decode cX7_layBack 131 = .ok (.aload_n 0, 1) := by decide +kernel
theorem dX7_layBack_132 : decode cX7_layBack 132 = .ok (.iconst 1, 1) := by decide +kernel
theorem dX7_layBack_133 : decode cX7_layBack 133 = .ok (.putfield 89, 3) := by decide +kernel
theorem dX7_layBack_136 : decode cX7_layBack 136 = .ok (.return_, 1) := by decide +kernel
theorem dX7_bids_0 : decode cX7_bids 0 = .ok (.iload_n 1, 1) := by decide +kernel
theorem dX7_bids_1 : decode cX7_bids 1 = .ok (.iconst 0, 1) := by decide +kernel
theorem dX7_bids_2 : decode cX7_bids 2 = .ok (.iconst 4, 1) := by decide +kernel
theorem dX7_bids_3 : decode cX7_bids 3 = .ok (.invokestatic 96, 3) := by decide +kernel
theorem dX7_bids_6 : decode cX7_bids 6 = .ok (.ifCond .ne 9, 3) := by decide +kernel
theorem dX7_bids_9 : decode cX7_bids 9 = .ok (.aload_n 0, 1) := by decide +kernel
theorem dX7_bids_10 : decode cX7_bids 10 = .ok (.iconst (-1), 1) := by decide +kernel
theorem dX7_bids_11 : decode cX7_bids 11 = .ok (.invokevirtual 136, 3) := by decide +kernel
theorem dX7_bids_14 : decode cX7_bids 14 = .ok (.ireturn, 1) := by decide +kernel
theorem dX7_bids_15 : decode cX7_bids 15 = .ok (.iload_n 2, 1) := by decide +kernel
theorem dX7_bids_16 : decode cX7_bids 16 = .ok (.iconst 1, 1) := by decide +kernel
theorem dX7_bids_17 : decode cX7_bids 17 = .ok (.if_icmp .lt 8, 3) := by decide +kernel
theorem dX7_bids_20 : decode cX7_bids 20 = .ok (.iload_n 3, 1) := by decide +kernel
theorem dX7_bids_21 : decode cX7_bids 21 = .ok (.iconst 1, 1) := by decide +kernel
theorem dX7_bids_22 : decode cX7_bids 22 = .ok (.if_icmp .ge 10, 3) := by decide +kernel
theorem dX7_bids_25 : decode cX7_bids 25 = .ok (.aload_n 0, 1) := by decide +kernel
theorem dX7_bids_26 : decode cX7_bids 26 = .ok (.bipush (-4), 2) := by decide +kernel
theorem dX7_bids_28 : decode cX7_bids 28 = .ok (.invokevirtual 136, 3) := by decide +kernel
theorem dX7_bids_31 : decode cX7_bids 31 = .ok (.ireturn, 1) := by decide +kernel
theorem dX7_bids_32 : decode cX7_bids 32 = .ok (.iload_n 2, 1) := by decide +kernel
theorem dX7_bids_33 : decode cX7_bids 33 = .ok (.bipush 63, 2) := by decide +kernel
theorem dX7_bids_35 : decode cX7_bids 35 = .ok (.if_icmp .gt 18, 3) := by decide +kernel
theorem dX7_bids_38 : decode cX7_bids 38 = .ok (.iload_n 3, 1) := by decide +kernel
theorem dX7_bids_39 : decode cX7_bids 39 = .ok (.bipush 99, 2) := by decide +kernel
theorem dX7_bids_41 : decode cX7_bids 41 = .ok (.if_icmp .gt 12, 3) := by decide +kernel
theorem dX7_bids_44 : decode cX7_bids 44 = .ok (.aload_n 0, 1) := by decide +kernel
theorem dX7_bids_45 : decode cX7_bids 45 = .ok (.getfield 93, 3) := by decide +kernel
theorem dX7_bids_48 : decode cX7_bids 48 = .ok (.bipush 10, 2) := by decide +kernel
theorem dX7_bids_50 : decode cX7_bids 50 = .ok (.if_icmp .ne 10, 3) := by decide +kernel
theorem dX7_bids_53 : decode cX7_bids 53 = .ok (.aload_n 0, 1) := by decide +kernel
theorem dX7_bids_54 : decode cX7_bids 54 = .ok (.bipush (-6), 2) := by decide +kernel
theorem dX7_bids_56 : decode cX7_bids 56 = .ok (.invokevirtual 136, 3) := by decide +kernel
theorem dX7_bids_59 : decode cX7_bids 59 = .ok (.ireturn, 1) := by decide +kernel
theorem dX7_bids_60 : decode cX7_bids 60 = .ok (.aload_n 0, 1) := by decide +kernel
theorem dX7_bids_61 : decode cX7_bids 61 = .ok (.getfield 74, 3) := by decide +kernel
theorem dX7_bids_64 : decode cX7_bids 64 = .ok (.iconst 0, 1) := by decide +kernel
theorem dX7_bids_65 : decode cX7_bids 65 = .ok (.iload_n 1, 1) := by decide +kernel
theorem dX7_bids_66 : decode cX7_bids 66 = .ok (.iastore, 1) := by decide +kernel
theorem dX7_bids_67 : decode cX7_bids 67 = .ok (.aload_n 0, 1) := by decide +kernel
theorem dX7_bids_68 : decode cX7_bids 68 = .ok (.getfield 74, 3) := by decide +kernel
theorem dX7_bids_71 : decode cX7_bids 71 = .ok (.iconst 1, 1) := by decide +kernel
theorem dX7_bids_72 : decode cX7_bids 72 = .ok (.iload_n 2, 1) := by decide +kernel
theorem dX7_bids_73 : decode cX7_bids 73 = .ok (.iastore, 1) := by decide +kernel
theorem dX7_bids_74 : decode cX7_bids 74 = .ok (.aload_n 0, 1) := by decide +kernel
theorem dX7_bids_75 : decode cX7_bids 75 = .ok (.getfield 74, 3) := by decide +kernel
theorem dX7_bids_78 : decode cX7_bids 78 = .ok (.iconst 2, 1) := by decide +kernel
theorem dX7_bids_79 : decode cX7_bids 79 = .ok (.iload_n 3, 1) := by decide +kernel
theorem dX7_bids_80 : decode cX7_bids 80 = .ok (.iastore, 1) := by decide +kernel
theorem dX7_bids_81 : decode cX7_bids 81 = .ok (.aload_n 0, 1) := by decide +kernel
theorem dX7_bids_82 : decode cX7_bids 82 = .ok (.iconst 0, 1) := by decide +kernel
theorem dX7_bids_83 : decode cX7_bids 83 = .ok (.invokevirtual 194, 3) := by decide +kernel
theorem dX7_bids_86 : decode cX7_bids 86 = .ok (.aload_n 0, 1) := by decide +kernel
theorem dX7_bids_87 : decode cX7_bids 87 = .ok (.getfield 93, 3) := by decide +kernel
theorem dX7_bids_90 : decode cX7_bids 90 = .ok (.iconst 1, 1) := by decide +kernel
theorem dX7_bids_91 : decode cX7_bids 91 = .ok (.isub, 1) := by decide +kernel
theorem dX7_bids_92 : decode cX7_bids 92 = .ok (.ireturn, 1) := by decide +kernel
theorem dX7_turns_0 : decode cX7_turns 0 = .ok (.aload_n 0, 1) := by decide +kernel
theorem dX7_turns_1 : decode cX7_turns 1 = .ok (.iload_n 1, 1) := by decide +kernel
theorem dX7_turns_2 : decode cX7_turns 2 = .ok (.invokevirtual 202, 3) := by decide +kernel
theorem dX7_turns_5 : decode cX7_turns 5 = .ok (.ifCond .ne 9, 3) := by decide +kernel
theorem dX7_turns_8 : decode cX7_turns 8 = .ok (.aload_n 0, 1) := by decide +kernel
theorem dX7_turns_9 : decode cX7_turns 9 = .ok (.iconst (-1), 1) := by decide +kernel
theorem dX7_turns_10 : decode cX7_turns 10 = .ok (.invokevirtual 136, 3) := by decide +kernel
theorem dX7_turns_13 : decode cX7_turns 13 = .ok (.ireturn, 1) := by decide +kernel
theorem dX7_turns_14 : decode cX7_turns 14 = .ok (.aload_n 0, 1) := by decide +kernel
theorem dX7_turns_15 : decode cX7_turns 15 = .ok (.dup, 1) := by decide +kernel
theorem dX7_turns_16 : decode cX7_turns 16 = .ok (.getfield 127, 3) := by decide +kernel
theorem dX7_turns_19 : decode cX7_turns 19 = .ok (.iconst 1, 1) := by decide +kernel
theorem dX7_turns_20 : decode cX7_turns 20 = .ok (.iload_n 1, 1) := by decide +kernel
theorem dX7_turns_21 : decode cX7_turns 21 = .ok (.ishl, 1) := by decide +kernel
theorem dX7_turns_22 : decode cX7_turns 22 = .ok (.ixor, 1) := by decide +kernel
theorem dX7_turns_23 : decode cX7_turns 23 = .ok (.putfield 127, 3) := by decide +kernel
theorem dX7_turns_26 : decode cX7_turns 26 = .ok (.aload_n 0, 1) := by decide +kernel
theorem dX7_turns_27 : decode cX7_turns 27 = .ok (.getfield 127, 3) := by decide +kernel
theorem dX7_turns_30 : decode cX7_turns 30 = .ok (.iload_n 1, 1) := by decide +kernel
theorem dX7_turns_31 : decode cX7_turns 31 = .ok (.ishr, 1) := by decide +kernel
theorem dX7_turns_32 : decode cX7_turns 32 = .ok (.iconst 1, 1) := by decide +kernel
theorem dX7_turns_33 : decode cX7_turns 33 = .ok (.iand, 1) := by decide +kernel
theorem dX7_turns_34 : decode cX7_turns 34 = .ok (.ireturn, 1) := by decide +kernel
theorem dX7_price_0 : decode cX7_price 0 = .ok (.aload_n 0, 1) := by decide +kernel
theorem dX7_price_1 : decode cX7_price 1 = .ok (.iload_n 1, 1) := by decide +kernel
theorem dX7_price_2 : decode cX7_price 2 = .ok (.invokevirtual 202, 3) := by decide +kernel
theorem dX7_price_5 : decode cX7_price 5 = .ok (.ifCond .ne 9, 3) := by decide +kernel
theorem dX7_price_8 : decode cX7_price 8 = .ok (.aload_n 0, 1) := by decide +kernel
theorem dX7_price_9 : decode cX7_price 9 = .ok (.iconst (-1), 1) := by decide +kernel
theorem dX7_price_10 : decode cX7_price 10 = .ok (.invokevirtual 136, 3) := by decide +kernel
theorem dX7_price_13 : decode cX7_price 13 = .ok (.ireturn, 1) := by decide +kernel
theorem dX7_price_14 : decode cX7_price 14 = .ok (.iload_n 2, 1) := by decide +kernel
theorem dX7_price_15 : decode cX7_price 15 = .ok (.iconst 1, 1) := by decide +kernel
theorem dX7_price_16 : decode cX7_price 16 = .ok (.if_icmp .ge 10, 3) := by decide +kernel
theorem dX7_price_19 : decode cX7_price 19 = .ok (.aload_n 0, 1) := by decide +kernel
theorem dX7_price_20 : decode cX7_price 20 = .ok (.bipush (-4), 2) := by decide +kernel
theorem dX7_price_22 : decode cX7_price 22 = .ok (.invokevirtual 136, 3) := by decide +kernel
theorem dX7_price_25 : decode cX7_price 25 = .ok (.ireturn, 1) := by decide +kernel
theorem dX7_price_26 : decode cX7_price 26 = .ok (.iload_n 2, 1) := by decide +kernel
theorem dX7_price_27 : decode cX7_price 27 = .ok (.bipush 99, 2) := by decide +kernel
theorem dX7_price_29 : decode cX7_price 29 = .ok (.if_icmp .le 10, 3) := by decide +kernel
theorem dX7_price_32 : decode cX7_price 32 = .ok (.aload_n 0, 1) := by decide +kernel
theorem dX7_price_33 : decode cX7_price 33 = .ok (.bipush (-6), 2) := by decide +kernel
theorem dX7_price_35 : decode cX7_price 35 = .ok (.invokevirtual 136, 3) := by decide +kernel
theorem dX7_price_38 : decode cX7_price 38 = .ok (.ireturn, 1) := by decide +kernel
theorem dX7_price_39 : decode cX7_price 39 = .ok (.aload_n 0, 1) := by decide +kernel
theorem dX7_price_40 : decode cX7_price 40 = .ok (.getfield 25, 3) := by decide +kernel
theorem dX7_price_43 : decode cX7_price 43 = .ok (.iload_n 1, 1) := by decide +kernel
theorem dX7_price_44 : decode cX7_price 44 = .ok (.iaload, 1) := by decide +kernel
theorem dX7_price_45 : decode cX7_price 45 = .ok (.istore_n 3, 1) := by decide +kernel
theorem dX7_price_46 : decode cX7_price 46 = .ok (.aload_n 0, 1) := by decide +kernel
theorem dX7_price_47 : decode cX7_price 47 = .ok (.getfield 25, 3) := by decide +kernel
theorem dX7_price_50 : decode cX7_price 50 = .ok (.iload_n 1, 1) := by decide +kernel
theorem dX7_price_51 : decode cX7_price 51 = .ok (.iload_n 2, 1) := by decide +kernel
theorem dX7_price_52 : decode cX7_price 52 = .ok (.iastore, 1) := by decide +kernel
theorem dX7_price_53 : decode cX7_price 53 = .ok (.aload_n 0, 1) := by decide +kernel
theorem dX7_price_54 : decode cX7_price 54 = .ok (.iconst 1, 1) := by decide +kernel
theorem dX7_price_55 : decode cX7_price 55 = .ok (.putfield 89, 3) := by decide +kernel
theorem dX7_price_58 : decode cX7_price 58 = .ok (.iload_n 3, 1) := by decide +kernel
theorem dX7_price_59 : decode cX7_price 59 = .ok (.ireturn, 1) := by decide +kernel
theorem dX7_kind_0 : decode cX7_kind 0 = .ok (.iload_n 1, 1) := by decide +kernel
theorem dX7_kind_1 : decode cX7_kind 1 = .ok (.iconst 0, 1) := by decide +kernel
theorem dX7_kind_2 : decode cX7_kind 2 = .ok (.iconst 4, 1) := by decide +kernel
theorem dX7_kind_3 : decode cX7_kind 3 = .ok (.invokestatic 96, 3) := by decide +kernel
theorem dX7_kind_6 : decode cX7_kind 6 = .ok (.ifCond .ne 9, 3) := by decide +kernel
theorem dX7_kind_9 : decode cX7_kind 9 = .ok (.aload_n 0, 1) := by decide +kernel
theorem dX7_kind_10 : decode cX7_kind 10 = .ok (.iconst (-1), 1) := by decide +kernel
theorem dX7_kind_11 : decode cX7_kind 11 = .ok (.invokevirtual 136, 3) := by decide +kernel
theorem dX7_kind_14 : decode cX7_kind 14 = .ok (.ireturn, 1) := by decide +kernel
theorem dX7_kind_15 : decode cX7_kind 15 = .ok (.iload_n 2, 1) := by decide +kernel
theorem dX7_kind_16 : decode cX7_kind 16 = .ok (.iconst 0, 1) := by decide +kernel
theorem dX7_kind_17 : decode cX7_kind 17 = .ok (.iconst 5, 1) := by decide +kernel
theorem dX7_kind_18 : decode cX7_kind 18 = .ok (.invokestatic 96, 3) := by decide +kernel
theorem dX7_kind_21 : decode cX7_kind 21 = .ok (.ifCond .ne 10, 3) := by decide +kernel
theorem dX7_kind_24 : decode cX7_kind 24 = .ok (.aload_n 0, 1) := by decide +kernel
theorem dX7_kind_25 : decode cX7_kind 25 = .ok (.bipush (-2), 2) := by decide +kernel
theorem dX7_kind_27 : decode cX7_kind 27 = .ok (.invokevirtual 136, 3) := by decide +kernel
theorem dX7_kind_30 : decode cX7_kind 30 = .ok (.ireturn, 1) := by decide +kernel
theorem dX7_kind_31 : decode cX7_kind 31 = .ok (.iload_n 3, 1) := by decide +kernel
theorem dX7_kind_32 : decode cX7_kind 32 = .ok (.ifCond .ge 10, 3) := by decide +kernel
theorem dX7_kind_35 : decode cX7_kind 35 = .ok (.aload_n 0, 1) := by decide +kernel
theorem dX7_kind_36 : decode cX7_kind 36 = .ok (.bipush (-4), 2) := by decide +kernel
theorem dX7_kind_38 : decode cX7_kind 38 = .ok (.invokevirtual 136, 3) := by decide +kernel
theorem dX7_kind_41 : decode cX7_kind 41 = .ok (.ireturn, 1) := by decide +kernel
theorem dX7_kind_42 : decode cX7_kind 42 = .ok (.iload_n 3, 1) := by decide +kernel
theorem dX7_kind_43 : decode cX7_kind 43 = .ok (.bipush 9, 2) := by decide +kernel
theorem dX7_kind_45 : decode cX7_kind 45 = .ok (.if_icmp .le 10, 3) := by decide +kernel
theorem dX7_kind_48 : decode cX7_kind 48 = .ok (.aload_n 0, 1) := by decide +kernel
theorem dX7_kind_49 : decode cX7_kind 49 = .ok (.bipush (-6), 2) := by decide +kernel
theorem dX7_kind_51 : decode cX7_kind 51 = .ok (.invokevirtual 136, 3) := by decide +kernel
theorem dX7_kind_54 : decode cX7_kind 54 = .ok (.ireturn, 1) := by decide +kernel
theorem dX7_kind_55 : decode cX7_kind 55 = .ok (.bipush 10, 2) := by decide +kernel
theorem dX7_kind_57 : decode cX7_kind 57 = .ok (.aload_n 0, 1) := by decide +kernel
theorem dX7_kind_58 : decode cX7_kind 58 = .ok (.getfield 13, 3) := by decide +kernel
theorem dX7_kind_61 : decode cX7_kind 61 = .ok (.iload_n 1, 1) := by decide +kernel
theorem dX7_kind_62 : decode cX7_kind 62 = .ok (.iaload, 1) := by decide +kernel
theorem dX7_kind_63 : decode cX7_kind 63 = .ok (.imul, 1) := by decide +kernel
theorem dX7_kind_64 : decode cX7_kind 64 = .ok (.aload_n 0, 1) := by decide +kernel
theorem dX7_kind_65 : decode cX7_kind 65 = .ok (.getfield 16, 3) := by decide +kernel
theorem dX7_kind_68 : decode cX7_kind 68 = .ok (.iload_n 1, 1) := by decide +kernel
theorem dX7_kind_69 : decode cX7_kind 69 = .ok (.iaload, 1) := by decide +kernel
theorem dX7_kind_70 : decode cX7_kind 70 = .ok (.iadd, 1) := by decide +kernel
theorem dX7_kind_71 : decode cX7_kind 71 = .ok (.istore 4, 2) := by decide +kernel
theorem dX7_kind_73 : decode cX7_kind 73 = .ok (.aload_n 0, 1) := by decide +kernel
theorem dX7_kind_74 : decode cX7_kind 74 = .ok (.getfield 13, 3) := by decide +kernel
theorem dX7_kind_77 : decode cX7_kind 77 = .ok (.iload_n 1, 1) := by decide +kernel
theorem dX7_kind_78 : decode cX7_kind 78 = .ok (.iload_n 2, 1) := by decide +kernel
theorem dX7_kind_79 : decode cX7_kind 79 = .ok (.iastore, 1) := by decide +kernel
theorem dX7_kind_80 : decode cX7_kind 80 = .ok (.aload_n 0, 1) := by decide +kernel
theorem dX7_kind_81 : decode cX7_kind 81 = .ok (.getfield 16, 3) := by decide +kernel
theorem dX7_kind_84 : decode cX7_kind 84 = .ok (.iload_n 1, 1) := by decide +kernel
theorem dX7_kind_85 : decode cX7_kind 85 = .ok (.iload_n 3, 1) := by decide +kernel
theorem dX7_kind_86 : decode cX7_kind 86 = .ok (.iastore, 1) := by decide +kernel
theorem dX7_kind_87 : decode cX7_kind 87 = .ok (.aload_n 0, 1) := by decide +kernel
theorem dX7_kind_88 : decode cX7_kind 88 = .ok (.iconst 1, 1) := by decide +kernel
theorem dX7_kind_89 : decode cX7_kind 89 = .ok (.putfield 89, 3) := by decide +kernel
theorem dX7_kind_92 : decode cX7_kind 92 = .ok (.iload 4, 2) := by decide +kernel
theorem dX7_kind_94 : decode cX7_kind 94 = .ok (.ireturn, 1) := by decide +kernel
theorem dX7_keep_0 : decode cX7_keep 0 = .ok (.iload_n 1, 1) := by decide +kernel
theorem dX7_keep_1 : decode cX7_keep 1 = .ok (.iconst 0, 1) := by decide +kernel
theorem dX7_keep_2 : decode cX7_keep 2 = .ok (.iconst 5, 1) := by decide +kernel
theorem dX7_keep_3 : decode cX7_keep 3 = .ok (.invokestatic 96, 3) := by decide +kernel
theorem dX7_keep_6 : decode cX7_keep 6 = .ok (.ifCond .ne 9, 3) := by decide +kernel
theorem dX7_keep_9 : decode cX7_keep 9 = .ok (.aload_n 0, 1) := by decide +kernel
theorem dX7_keep_10 : decode cX7_keep 10 = .ok (.iconst (-1), 1) := by decide +kernel
theorem dX7_keep_11 : decode cX7_keep 11 = .ok (.invokevirtual 136, 3) := by decide +kernel
theorem dX7_keep_14 : decode cX7_keep 14 = .ok (.ireturn, 1) := by decide +kernel
theorem dX7_keep_15 : decode cX7_keep 15 = .ok (.iload_n 2, 1) := by decide +kernel
theorem dX7_keep_16 : decode cX7_keep 16 = .ok (.ifCond .ge 10, 3) := by decide +kernel
theorem dX7_keep_19 : decode cX7_keep 19 = .ok (.aload_n 0, 1) := by decide +kernel
theorem dX7_keep_20 : decode cX7_keep 20 = .ok (.bipush (-4), 2) := by decide +kernel
theorem dX7_keep_22 : decode cX7_keep 22 = .ok (.invokevirtual 136, 3) := by decide +kernel
theorem dX7_keep_25 : decode cX7_keep 25 = .ok (.ireturn, 1) := by decide +kernel
theorem dX7_keep_26 : decode cX7_keep 26 = .ok (.iload_n 2, 1) := by decide +kernel
theorem dX7_keep_27 : decode cX7_keep 27 = .ok (.bipush 9, 2) := by decide +kernel
theorem dX7_keep_29 : decode cX7_keep 29 = .ok (.if_icmp .le 10, 3) := by decide +kernel
theorem dX7_keep_32 : decode cX7_keep 32 = .ok (.aload_n 0, 1) := by decide +kernel
theorem dX7_keep_33 : decode cX7_keep 33 = .ok (.bipush (-6), 2) := by decide +kernel
theorem dX7_keep_35 : decode cX7_keep 35 = .ok (.invokevirtual 136, 3) := by decide +kernel
theorem dX7_keep_38 : decode cX7_keep 38 = .ok (.ireturn, 1) := by decide +kernel
theorem dX7_keep_39 : decode cX7_keep 39 = .ok (.aload_n 0, 1) := by decide +kernel
theorem dX7_keep_40 : decode cX7_keep 40 = .ok (.getfield 9, 3) := by decide +kernel
theorem dX7_keep_43 : decode cX7_keep 43 = .ok (.iload_n 1, 1) := by decide +kernel
theorem dX7_keep_44 : decode cX7_keep 44 = .ok (.iaload, 1) := by decide +kernel
theorem dX7_keep_45 : decode cX7_keep 45 = .ok (.istore_n 3, 1) := by decide +kernel
theorem dX7_keep_46 : decode cX7_keep 46 = .ok (.aload_n 0, 1) := by decide +kernel
theorem dX7_keep_47 : decode cX7_keep 47 = .ok (.getfield 9, 3) := by decide +kernel
theorem dX7_keep_50 : decode cX7_keep 50 = .ok (.iload_n 1, 1) := by decide +kernel
theorem dX7_keep_51 : decode cX7_keep 51 = .ok (.iload_n 2, 1) := by decide +kernel
theorem dX7_keep_52 : decode cX7_keep 52 = .ok (.iastore, 1) := by decide +kernel
theorem dX7_keep_53 : decode cX7_keep 53 = .ok (.aload_n 0, 1) := by decide +kernel
theorem dX7_keep_54 : decode cX7_keep 54 = .ok (.iconst 1, 1) := by decide +kernel
theorem dX7_keep_55 : decode cX7_keep 55 = .ok (.putfield 89, 3) := by decide +kernel
theorem dX7_keep_58 : decode cX7_keep 58 = .ok (.iload_n 3, 1) := by decide +kernel
theorem dX7_keep_59 : decode cX7_keep 59 = .ok (.ireturn, 1) := by decide +kernel
theorem dX7_findOrder_0 : decode cX7_findOrder 0 = .ok (.aload_n 0, 1) := by decide +kernel
theorem dX7_findOrder_1 : decode cX7_findOrder 1 = .ok (.iconst 0, 1) := by decide +kernel
theorem dX7_findOrder_2 : decode cX7_findOrder 2 = .ok (.putfield 205, 3) := by decide +kernel
theorem dX7_findOrder_5 : decode cX7_findOrder 5 = .ok (.iconst 0, 1) := by decide +kernel
theorem dX7_findOrder_6 : decode cX7_findOrder 6 = .ok (.istore_n 1, 1) := by decide +kernel
theorem dX7_findOrder_7 : decode cX7_findOrder 7 = .ok (.iload_n 1, 1) := by decide +kernel
theorem dX7_findOrder_8 : decode cX7_findOrder 8 = .ok (.aload_n 0, 1) := by decide +kernel
theorem dX7_findOrder_9 : decode cX7_findOrder 9 = .ok (.getfield 93, 3) := by decide +kernel
theorem dX7_findOrder_12 : decode cX7_findOrder 12 = .ok (.if_icmp .ge 118, 3) := by decide +kernel
theorem dX7_findOrder_15 : decode cX7_findOrder 15 = .ok (.aload_n 0, 1) := by decide +kernel
theorem dX7_findOrder_16 : decode cX7_findOrder 16 = .ok (.getfield 127, 3) := by decide +kernel
theorem dX7_findOrder_19 : decode cX7_findOrder 19 = .ok (.iload_n 1, 1) := by decide +kernel
theorem dX7_findOrder_20 : decode cX7_findOrder 20 = .ok (.invokestatic 104, 3) := by decide +kernel
theorem dX7_findOrder_23 : decode cX7_findOrder 23 = .ok (.ifCond .ne 6, 3) := by decide +kernel
theorem dX7_findOrder_26 : decode cX7_findOrder 26 = .ok (.goto 98, 3) := by decide +kernel
theorem dX7_findOrder_29 : decode cX7_findOrder 29 = .ok (.aload_n 0, 1) := by decide +kernel
theorem dX7_findOrder_30 : decode cX7_findOrder 30 = .ok (.getfield 205, 3) := by decide +kernel
theorem dX7_findOrder_33 : decode cX7_findOrder 33 = .ok (.istore_n 2, 1) := by decide +kernel
theorem dX7_findOrder_34 : decode cX7_findOrder 34 = .ok (.iload_n 2, 1) := by decide +kernel
theorem dX7_findOrder_35 : decode cX7_findOrder 35 = .ok (.ifCond .le 72, 3) := by decide +kernel
theorem dX7_findOrder_38 : decode cX7_findOrder 38 = .ok (.aload_n 0, 1) := by decide +kernel
theorem dX7_findOrder_39 : decode cX7_findOrder 39 = .ok (.getfield 25, 3) := by decide +kernel
theorem dX7_findOrder_42 : decode cX7_findOrder 42 = .ok (.aload_n 0, 1) := by decide +kernel
theorem dX7_findOrder_43 : decode cX7_findOrder 43 = .ok (.getfield 77, 3) := by decide +kernel
theorem dX7_findOrder_46 : decode cX7_findOrder 46 = .ok (.iload_n 2, 1) := by decide +kernel
theorem dX7_findOrder_47 : decode cX7_findOrder 47 = .ok (.iconst 1, 1) := by decide +kernel
theorem dX7_findOrder_48 : decode cX7_findOrder 48 = .ok (.isub, 1) := by decide +kernel
theorem dX7_findOrder_49 : decode cX7_findOrder 49 = .ok (.iaload, 1) := by decide +kernel
theorem dX7_findOrder_50 : decode cX7_findOrder 50 = .ok (.iaload, 1) := by decide +kernel
theorem dX7_findOrder_51 : decode cX7_findOrder 51 = .ok (.aload_n 0, 1) := by decide +kernel
theorem dX7_findOrder_52 : decode cX7_findOrder 52 = .ok (.getfield 22, 3) := by decide +kernel
theorem dX7_findOrder_55 : decode cX7_findOrder 55 = .ok (.iload_n 1, 1) := by decide +kernel
theorem dX7_findOrder_56 : decode cX7_findOrder 56 = .ok (.iaload, 1) := by decide +kernel
theorem dX7_findOrder_57 : decode cX7_findOrder 57 = .ok (.invokestatic 100, 3) := by decide +kernel
theorem dX7_findOrder_60 : decode cX7_findOrder 60 = .ok (.imul, 1) := by decide +kernel
theorem dX7_findOrder_61 : decode cX7_findOrder 61 = .ok (.aload_n 0, 1) := by decide +kernel
theorem dX7_findOrder_62 : decode cX7_findOrder 62 = .ok (.getfield 25, 3) := by decide +kernel
theorem dX7_findOrder_65 : decode cX7_findOrder 65 = .ok (.iload_n 1, 1) := by decide +kernel
theorem dX7_findOrder_66 : decode cX7_findOrder 66 = .ok (.iaload, 1) := by decide +kernel
theorem dX7_findOrder_67 : decode cX7_findOrder 67 = .ok (.aload_n 0, 1) := by decide +kernel
theorem dX7_findOrder_68 : decode cX7_findOrder 68 = .ok (.getfield 22, 3) := by decide +kernel
theorem dX7_findOrder_71 : decode cX7_findOrder 71 = .ok (.aload_n 0, 1) := by decide +kernel
theorem dX7_findOrder_72 : decode cX7_findOrder 72 = .ok (.getfield 77, 3) := by decide +kernel
theorem dX7_findOrder_75 : decode cX7_findOrder 75 = .ok (.iload_n 2, 1) := by decide +kernel
theorem dX7_findOrder_76 : decode cX7_findOrder 76 = .ok (.iconst 1, 1) := by decide +kernel
theorem dX7_findOrder_77 : decode cX7_findOrder 77 = .ok (.isub, 1) := by decide +kernel
theorem dX7_findOrder_78 : decode cX7_findOrder 78 = .ok (.iaload, 1) := by decide +kernel
theorem dX7_findOrder_79 : decode cX7_findOrder 79 = .ok (.iaload, 1) := by decide +kernel
theorem dX7_findOrder_80 : decode cX7_findOrder 80 = .ok (.invokestatic 100, 3) := by decide +kernel
theorem dX7_findOrder_83 : decode cX7_findOrder 83 = .ok (.imul, 1) := by decide +kernel
theorem dX7_findOrder_84 : decode cX7_findOrder 84 = .ok (.if_icmp .ge 23, 3) := by decide +kernel
theorem dX7_findOrder_87 : decode cX7_findOrder 87 = .ok (.aload_n 0, 1) := by decide +kernel
theorem dX7_findOrder_88 : decode cX7_findOrder 88 = .ok (.getfield 77, 3) := by decide +kernel
theorem dX7_findOrder_91 : decode cX7_findOrder 91 = .ok (.iload_n 2, 1) := by decide +kernel
theorem dX7_findOrder_92 : decode cX7_findOrder 92 = .ok (.aload_n 0, 1) := by decide +kernel
theorem dX7_findOrder_93 : decode cX7_findOrder 93 = .ok (.getfield 77, 3) := by decide +kernel
theorem dX7_findOrder_96 : decode cX7_findOrder 96 = .ok (.iload_n 2, 1) := by decide +kernel
theorem dX7_findOrder_97 : decode cX7_findOrder 97 = .ok (.iconst 1, 1) := by decide +kernel
theorem dX7_findOrder_98 : decode cX7_findOrder 98 = .ok (.isub, 1) := by decide +kernel
theorem dX7_findOrder_99 : decode cX7_findOrder 99 = .ok (.iaload, 1) := by decide +kernel
theorem dX7_findOrder_100 : decode cX7_findOrder 100 = .ok (.iastore, 1) := by decide +kernel
theorem dX7_findOrder_101 : decode cX7_findOrder 101 = .ok (.iinc 2 (-1), 3) := by decide +kernel
theorem dX7_findOrder_104 : decode cX7_findOrder 104 = .ok (.goto (-70), 3) := by decide +kernel
theorem dX7_findOrder_107 : decode cX7_findOrder 107 = .ok (.aload_n 0, 1) := by decide +kernel
theorem dX7_findOrder_108 : decode cX7_findOrder 108 = .ok (.getfield 77, 3) := by decide +kernel
theorem dX7_findOrder_111 : decode cX7_findOrder 111 = .ok (.iload_n 2, 1) := by decide +kernel
theorem dX7_findOrder_112 : decode cX7_findOrder 112 = .ok (.iload_n 1, 1) := by decide +kernel
theorem dX7_findOrder_113 : decode cX7_findOrder 113 = .ok (.iastore, 1) := by decide +kernel
theorem dX7_findOrder_114 : decode cX7_findOrder 114 = .ok (.aload_n 0, 1) := by decide +kernel
theorem dX7_findOrder_115 : decode cX7_findOrder 115 = .ok (.dup, 1) := by decide +kernel
theorem dX7_findOrder_116 : decode cX7_findOrder 116 = .ok (.getfield 205, 3) := by decide +kernel
theorem dX7_findOrder_119 : decode cX7_findOrder 119 = .ok (.iconst 1, 1) := by decide +kernel
theorem dX7_findOrder_120 : decode cX7_findOrder 120 = .ok (.iadd, 1) := by decide +kernel
theorem dX7_findOrder_121 : decode cX7_findOrder 121 = .ok (.putfield 205, 3) := by decide +kernel
theorem dX7_findOrder_124 : decode cX7_findOrder 124 = .ok (.iinc 1 1, 3) := by decide +kernel
theorem dX7_findOrder_127 : decode cX7_findOrder 127 = .ok (.goto (-120), 3) := by decide +kernel
theorem dX7_findOrder_130 : decode cX7_findOrder 130 = .ok (.return_, 1) := by decide +kernel
theorem dX7_placeOf_0 : decode cX7_placeOf 0 = .ok (.aload_n 0, 1) := by decide +kernel
theorem dX7_placeOf_1 : decode cX7_placeOf 1 = .ok (.invokevirtual 208, 3) := by decide +kernel
theorem dX7_placeOf_4 : decode cX7_placeOf 4 = .ok (.iconst 0, 1) := by decide +kernel
theorem dX7_placeOf_5 : decode cX7_placeOf 5 = .ok (.istore_n 2, 1) := by decide +kernel
theorem dX7_placeOf_6 : decode cX7_placeOf 6 = .ok (.iload_n 2, 1) := by decide +kernel
theorem dX7_placeOf_7 : decode cX7_placeOf 7 = .ok (.aload_n 0, 1) := by decide +kernel
theorem dX7_placeOf_8 : decode cX7_placeOf 8 = .ok (.getfield 205, 3) := by decide +kernel
theorem dX7_placeOf_11 : decode cX7_placeOf 11 = .ok (.if_icmp .ge 21, 3) := by decide +kernel
theorem dX7_placeOf_14 : decode cX7_placeOf 14 = .ok (.aload_n 0, 1) := by decide +kernel
theorem dX7_placeOf_15 : decode cX7_placeOf 15 = .ok (.getfield 77, 3) := by decide +kernel
theorem dX7_placeOf_18 : decode cX7_placeOf 18 = .ok (.iload_n 2, 1) := by decide +kernel
theorem dX7_placeOf_19 : decode cX7_placeOf 19 = .ok (.iaload, 1) := by decide +kernel
theorem dX7_placeOf_20 : decode cX7_placeOf 20 = .ok (.iload_n 1, 1) := by decide +kernel
theorem dX7_placeOf_21 : decode cX7_placeOf 21 = .ok (.if_icmp .ne 5, 3) := by decide +kernel
theorem dX7_placeOf_24 : decode cX7_placeOf 24 = .ok (.iload_n 2, 1) := by decide +kernel
theorem dX7_placeOf_25 : decode cX7_placeOf 25 = .ok (.ireturn, 1) := by decide +kernel
theorem dX7_placeOf_26 : decode cX7_placeOf 26 = .ok (.iinc 2 1, 3) := by decide +kernel
theorem dX7_placeOf_29 : decode cX7_placeOf 29 = .ok (.goto (-23), 3) := by decide +kernel
theorem dX7_placeOf_32 : decode cX7_placeOf 32 = .ok (.bipush (-9), 2) := by decide +kernel
theorem dX7_placeOf_34 : decode cX7_placeOf 34 = .ok (.ireturn, 1) := by decide +kernel
theorem dX7_boundOf_0 : decode cX7_boundOf 0 = .ok (.iconst 0, 1) := by decide +kernel
theorem dX7_boundOf_1 : decode cX7_boundOf 1 = .ok (.istore_n 3, 1) := by decide +kernel
theorem dX7_boundOf_2 : decode cX7_boundOf 2 = .ok (.iconst 0, 1) := by decide +kernel
theorem dX7_boundOf_3 : decode cX7_boundOf 3 = .ok (.istore 4, 2) := by decide +kernel
theorem dX7_boundOf_5 : decode cX7_boundOf 5 = .ok (.iload 4, 2) := by decide +kernel
theorem dX7_boundOf_7 : decode cX7_boundOf 7 = .ok (.aload_n 0, 1) := by decide +kernel
theorem dX7_boundOf_8 : decode cX7_boundOf 8 = .ok (.getfield 93, 3) := by decide +kernel
theorem dX7_boundOf_11 : decode cX7_boundOf 11 = .ok (.if_icmp .ge 35, 3) := by decide +kernel
theorem dX7_boundOf_14 : decode cX7_boundOf 14 = .ok (.iload_n 3, 1) := by decide +kernel
theorem dX7_boundOf_15 : decode cX7_boundOf 15 = .ok (.iload_n 1, 1) := by decide +kernel
theorem dX7_boundOf_16 : decode cX7_boundOf 16 = .ok (.iload 4, 2) := by decide +kernel
theorem dX7_boundOf_18 : decode cX7_boundOf 18 = .ok (.invokestatic 104, 3) := by decide +kernel
theorem dX7_boundOf_21 : decode cX7_boundOf 21 = .ok (.ifCond .eq 16, 3) := by decide +kernel
theorem dX7_boundOf_24 : decode cX7_boundOf 24 = .ok (.bipush 60, 2) := by decide +kernel
theorem dX7_boundOf_26 : decode cX7_boundOf 26 = .ok (.aload_n 0, 1) := by decide +kernel
theorem dX7_boundOf_27 : decode cX7_boundOf 27 = .ok (.getfield 25, 3) := by decide +kernel
theorem dX7_boundOf_30 : decode cX7_boundOf 30 = .ok (.iload 4, 2) := by decide +kernel
theorem dX7_boundOf_32 : decode cX7_boundOf 32 = .ok (.iaload, 1) := by decide +kernel
theorem dX7_boundOf_33 : decode cX7_boundOf 33 = .ok (.imul, 1) := by decide +kernel
theorem dX7_boundOf_34 : decode cX7_boundOf 34 = .ok (.goto 4, 3) := by decide +kernel
theorem dX7_boundOf_37 : decode cX7_boundOf 37 = .ok (.iconst 0, 1) := by decide +kernel
theorem dX7_boundOf_38 : decode cX7_boundOf 38 = .ok (.iadd, 1) := by decide +kernel
theorem dX7_boundOf_39 : decode cX7_boundOf 39 = .ok (.istore_n 3, 1) := by decide +kernel
theorem dX7_boundOf_40 : decode cX7_boundOf 40 = .ok (.iinc 4 1, 3) := by decide +kernel
theorem dX7_boundOf_43 : decode cX7_boundOf 43 = .ok (.goto (-38), 3) := by decide +kernel
theorem dX7_boundOf_46 : decode cX7_boundOf 46 = .ok (.iconst 0, 1) := by decide +kernel
theorem dX7_boundOf_47 : decode cX7_boundOf 47 = .ok (.istore 4, 2) := by decide +kernel
theorem dX7_boundOf_49 : decode cX7_boundOf 49 = .ok (.iload 4, 2) := by decide +kernel
theorem dX7_boundOf_51 : decode cX7_boundOf 51 = .ok (.bipush 6, 2) := by decide +kernel
theorem dX7_boundOf_53 : decode cX7_boundOf 53 = .ok (.if_icmp .ge 119, 3) := by decide +kernel
theorem dX7_boundOf_56 : decode cX7_boundOf 56 = .ok (.aload_n 0, 1) := by decide +kernel
theorem dX7_boundOf_57 : decode cX7_boundOf 57 = .ok (.getfield 34, 3) := by decide +kernel
theorem dX7_boundOf_60 : decode cX7_boundOf 60 = .ok (.iload_n 1, 1) := by decide +kernel
theorem dX7_boundOf_61 : decode cX7_boundOf 61 = .ok (.iaload, 1) := by decide +kernel
theorem dX7_boundOf_62 : decode cX7_boundOf 62 = .ok (.iload 4, 2) := by decide +kernel
theorem dX7_boundOf_64 : decode cX7_boundOf 64 = .ok (.invokestatic 104, 3) := by decide +kernel
theorem dX7_boundOf_67 : decode cX7_boundOf 67 = .ok (.ifCond .eq 6, 3) := by decide +kernel
theorem dX7_boundOf_70 : decode cX7_boundOf 70 = .ok (.goto 96, 3) := by decide +kernel
theorem dX7_boundOf_73 : decode cX7_boundOf 73 = .ok (.bipush 60, 2) := by decide +kernel
theorem dX7_boundOf_75 : decode cX7_boundOf 75 = .ok (.aload_n 0, 1) := by decide +kernel
theorem dX7_boundOf_76 : decode cX7_boundOf 76 = .ok (.getfield 9, 3) := by decide +kernel
theorem dX7_boundOf_79 : decode cX7_boundOf 79 = .ok (.iload 4, 2) := by decide +kernel
theorem dX7_boundOf_81 : decode cX7_boundOf 81 = .ok (.iaload, 1) := by decide +kernel
theorem dX7_boundOf_82 : decode cX7_boundOf 82 = .ok (.imul, 1) := by decide +kernel
theorem dX7_boundOf_83 : decode cX7_boundOf 83 = .ok (.istore 5, 2) := by decide +kernel
theorem dX7_boundOf_85 : decode cX7_boundOf 85 = .ok (.iload_n 2, 1) := by decide +kernel
theorem dX7_boundOf_86 : decode cX7_boundOf 86 = .ok (.istore 6, 2) := by decide +kernel
theorem dX7_boundOf_88 : decode cX7_boundOf 88 = .ok (.iload 6, 2) := by decide +kernel
theorem dX7_boundOf_90 : decode cX7_boundOf 90 = .ok (.aload_n 0, 1) := by decide +kernel
theorem dX7_boundOf_91 : decode cX7_boundOf 91 = .ok (.getfield 205, 3) := by decide +kernel
theorem dX7_boundOf_94 : decode cX7_boundOf 94 = .ok (.if_icmp .ge 67, 3) := by decide +kernel
theorem dX7_boundOf_97 : decode cX7_boundOf 97 = .ok (.aload_n 0, 1) := by decide +kernel
theorem dX7_boundOf_98 : decode cX7_boundOf 98 = .ok (.getfield 22, 3) := by decide +kernel
theorem dX7_boundOf_101 : decode cX7_boundOf 101 = .ok (.aload_n 0, 1) := by decide +kernel
theorem dX7_boundOf_102 : decode cX7_boundOf 102 = .ok (.getfield 77, 3) := by decide +kernel
theorem dX7_boundOf_105 : decode cX7_boundOf 105 = .ok (.iload 6, 2) := by decide +kernel
theorem dX7_boundOf_107 : decode cX7_boundOf 107 = .ok (.iaload, 1) := by decide +kernel
theorem dX7_boundOf_108 : decode cX7_boundOf 108 = .ok (.iaload, 1) := by decide +kernel
theorem dX7_boundOf_109 : decode cX7_boundOf 109 = .ok (.iload 4, 2) := by decide +kernel
theorem dX7_boundOf_111 : decode cX7_boundOf 111 = .ok (.invokestatic 104, 3) := by decide +kernel
theorem dX7_boundOf_114 : decode cX7_boundOf 114 = .ok (.ifCond .eq 41, 3) := by decide +kernel
theorem dX7_boundOf_117 : decode cX7_boundOf 117 = .ok (.iload 5, 2) := by decide +kernel
theorem dX7_boundOf_119 : decode cX7_boundOf 119 = .ok (.bipush 60, 2) := by decide +kernel
theorem dX7_boundOf_121 : decode cX7_boundOf 121 = .ok (.aload_n 0, 1) := by decide +kernel
theorem dX7_boundOf_122 : decode cX7_boundOf 122 = .ok (.getfield 22, 3) := by decide +kernel
theorem dX7_boundOf_125 : decode cX7_boundOf 125 = .ok (.aload_n 0, 1) := by decide +kernel
theorem dX7_boundOf_126 : decode cX7_boundOf 126 = .ok (.getfield 77, 3) := by decide +kernel
theorem dX7_boundOf_129 : decode cX7_boundOf 129 = .ok (.iload 6, 2) := by decide +kernel
theorem dX7_boundOf_131 : decode cX7_boundOf 131 = .ok (.iaload, 1) := by decide +kernel
theorem dX7_boundOf_132 : decode cX7_boundOf 132 = .ok (.iaload, 1) := by decide +kernel
theorem dX7_boundOf_133 : decode cX7_boundOf 133 = .ok (.invokestatic 100, 3) := by decide +kernel
theorem dX7_boundOf_136 : decode cX7_boundOf 136 = .ok (.idiv, 1) := by decide +kernel
theorem dX7_boundOf_137 : decode cX7_boundOf 137 = .ok (.aload_n 0, 1) := by decide +kernel
theorem dX7_boundOf_138 : decode cX7_boundOf 138 = .ok (.getfield 25, 3) := by decide +kernel
theorem dX7_boundOf_141 : decode cX7_boundOf 141 = .ok (.aload_n 0, 1) := by decide +kernel
theorem dX7_boundOf_142 : decode cX7_boundOf 142 = .ok (.getfield 77, 3) := by decide +kernel
theorem dX7_boundOf_145 : decode cX7_boundOf 145 = .ok (.iload 6, 2) := by decide +kernel
theorem dX7_boundOf_147 : decode cX7_boundOf 147 = .ok (.iaload, 1) := by decide +kernel
theorem dX7_boundOf_148 : decode cX7_boundOf 148 = .ok (.iaload, 1) := by decide +kernel
theorem dX7_boundOf_149 : decode cX7_boundOf 149 = .ok (.imul, 1) := by decide +kernel
theorem dX7_boundOf_150 : decode cX7_boundOf 150 = .ok (.invokestatic 211, 3) := by decide +kernel
theorem dX7_boundOf_153 : decode cX7_boundOf 153 = .ok (.istore 5, 2) := by decide +kernel
theorem dX7_boundOf_155 : decode cX7_boundOf 155 = .ok (.iinc 6 1, 3) := by decide +kernel
theorem dX7_boundOf_158 : decode cX7_boundOf 158 = .ok (.goto (-70), 3) := by decide +kernel
theorem dX7_boundOf_161 : decode cX7_boundOf 161 = .ok (.iload_n 3, 1) := by decide +kernel
theorem dX7_boundOf_162 : decode cX7_boundOf 162 = .ok (.iload 5, 2) := by decide +kernel
theorem dX7_boundOf_164 : decode cX7_boundOf 164 = .ok (.iadd, 1) := by decide +kernel
theorem dX7_boundOf_165 : decode cX7_boundOf 165 = .ok (.istore_n 3, 1) := by decide +kernel
theorem dX7_boundOf_166 : decode cX7_boundOf 166 = .ok (.iinc 4 1, 3) := by decide +kernel
theorem dX7_boundOf_169 : decode cX7_boundOf 169 = .ok (.goto (-120), 3) := by decide +kernel
theorem dX7_boundOf_172 : decode cX7_boundOf 172 = .ok (.iload_n 3, 1) := by decide +kernel
theorem dX7_boundOf_173 : decode cX7_boundOf 173 = .ok (.ireturn, 1) := by decide +kernel
theorem dX7_looked_0 : decode cX7_looked 0 = .ok (.aload_n 0, 1) := by decide +kernel
theorem dX7_looked_1 : decode cX7_looked 1 = .ok (.invokevirtual 124, 3) := by decide +kernel
theorem dX7_looked_4 : decode cX7_looked 4 = .ok (.aload_n 0, 1) := by decide +kernel
theorem dX7_looked_5 : decode cX7_looked 5 = .ok (.invokevirtual 208, 3) := by decide +kernel
theorem dX7_looked_8 : decode cX7_looked 8 = .ok (.bipush 20, 2) := by decide +kernel
theorem dX7_looked_10 : decode cX7_looked 10 = .ok (.newarray .int, 2) := by decide +kernel
theorem dX7_looked_12 : decode cX7_looked 12 = .ok (.astore_n 1, 1) := by decide +kernel
theorem dX7_looked_13 : decode cX7_looked 13 = .ok (.bipush 20, 2) := by decide +kernel
theorem dX7_looked_15 : decode cX7_looked 15 = .ok (.newarray .int, 2) := by decide +kernel
theorem dX7_looked_17 : decode cX7_looked 17 = .ok (.astore_n 2, 1) := by decide +kernel
theorem dX7_looked_18 : decode cX7_looked 18 = .ok (.iconst 1, 1) := by decide +kernel
theorem dX7_looked_19 : decode cX7_looked 19 = .ok (.istore_n 3, 1) := by decide +kernel
theorem dX7_looked_20 : decode cX7_looked 20 = .ok (.iconst 0, 1) := by decide +kernel
theorem dX7_looked_21 : decode cX7_looked 21 = .ok (.istore 4, 2) := by decide +kernel
theorem dX7_looked_23 : decode cX7_looked 23 = .ok (.iconst 0, 1) := by decide +kernel
theorem dX7_looked_24 : decode cX7_looked 24 = .ok (.istore 5, 2) := by decide +kernel
theorem dX7_looked_26 : decode cX7_looked 26 = .ok (.iload_n 3, 1) := by decide +kernel
theorem dX7_looked_27 : decode cX7_looked 27 = .ok (.ifCond .le 128, 3) := by decide +kernel
theorem dX7_looked_30 : decode cX7_looked 30 = .ok (.iinc 3 (-1), 3) := by decide +kernel
theorem dX7_looked_33 : decode cX7_looked 33 = .ok (.aload_n 1, 1) := by decide +kernel
theorem dX7_looked_34 : decode cX7_looked 34 = .ok (.iload_n 3, 1) := by decide +kernel
theorem dX7_looked_35 : decode cX7_looked 35 = .ok (.iaload, 1) := by decide +kernel
theorem dX7_looked_36 : decode cX7_looked 36 = .ok (.istore 6, 2) := by decide +kernel
theorem dX7_looked_38 : decode cX7_looked 38 = .ok (.aload_n 2, 1) := by decide +kernel
theorem dX7_looked_39 : decode cX7_looked 39 = .ok (.iload_n 3, 1) := by decide +kernel
theorem dX7_looked_40 : decode cX7_looked 40 = .ok (.iaload, 1) := by decide +kernel
theorem dX7_looked_41 : decode cX7_looked 41 = .ok (.istore 7, 2) := by decide +kernel
theorem dX7_looked_43 : decode cX7_looked 43 = .ok (.iinc 5 1, 3) := by decide +kernel
theorem dX7_looked_46 : decode cX7_looked 46 = .ok (.aload_n 0, 1) := by decide +kernel
theorem dX7_looked_47 : decode cX7_looked 47 = .ok (.iload 6, 2) := by decide +kernel
theorem dX7_looked_49 : decode cX7_looked 49 = .ok (.iload 7, 2) := by decide +kernel
theorem dX7_looked_51 : decode cX7_looked 51 = .ok (.invokevirtual 216, 3) := by decide +kernel
theorem dX7_looked_54 : decode cX7_looked 54 = .ok (.bipush 60, 2) := by decide +kernel
theorem dX7_looked_56 : decode cX7_looked 56 = .ok (.iload 4, 2) := by decide +kernel
theorem dX7_looked_58 : decode cX7_looked 58 = .ok (.imul, 1) := by decide +kernel
theorem dX7_looked_59 : decode cX7_looked 59 = .ok (.if_icmp .ge 6, 3) := by decide +kernel
theorem dX7_looked_62 : decode cX7_looked 62 = .ok (.goto (-36), 3) := by decide +kernel
theorem dX7_looked_65 : decode cX7_looked 65 = .ok (.iload 7, 2) := by decide +kernel
theorem dX7_looked_67 : decode cX7_looked 67 = .ok (.aload_n 0, 1) := by decide +kernel
theorem dX7_looked_68 : decode cX7_looked 68 = .ok (.getfield 205, 3) := by decide +kernel
theorem dX7_looked_71 : decode cX7_looked 71 = .ok (.if_icmp .ne 20, 3) := by decide +kernel
theorem dX7_looked_74 : decode cX7_looked 74 = .ok (.iload 4, 2) := by decide +kernel
theorem dX7_looked_76 : decode cX7_looked 76 = .ok (.aload_n 0, 1) := by decide +kernel
theorem dX7_looked_77 : decode cX7_looked 77 = .ok (.getfield 31, 3) := by decide +kernel
theorem dX7_looked_80 : decode cX7_looked 80 = .ok (.iload 6, 2) := by decide +kernel
theorem dX7_looked_82 : decode cX7_looked 82 = .ok (.iaload, 1) := by decide +kernel
theorem dX7_looked_83 : decode cX7_looked 83 = .ok (.invokestatic 211, 3) := by decide +kernel
theorem dX7_looked_86 : decode cX7_looked 86 = .ok (.istore 4, 2) := by decide +kernel
theorem dX7_looked_88 : decode cX7_looked 88 = .ok (.goto (-62), 3) := by decide +kernel
theorem dX7_looked_91 : decode cX7_looked 91 = .ok (.aload_n 2, 1) := by decide +kernel
theorem dX7_looked_92 : decode cX7_looked 92 = .ok (.iload_n 3, 1) := by decide +kernel
theorem dX7_looked_93 : decode cX7_looked 93 = .ok (.iload 7, 2) := by decide +kernel
theorem dX7_looked_95 : decode cX7_looked 95 = .ok (.iconst 1, 1) := by decide +kernel
theorem dX7_looked_96 : decode cX7_looked 96 = .ok (.iadd, 1) := by decide +kernel
theorem dX7_looked_97 : decode cX7_looked 97 = .ok (.iastore, 1) := by decide +kernel
theorem dX7_looked_98 : decode cX7_looked 98 = .ok (.iinc 3 1, 3) := by decide +kernel
theorem dX7_looked_101 : decode cX7_looked 101 = .ok (.aload_n 0, 1) := by decide +kernel
theorem dX7_looked_102 : decode cX7_looked 102 = .ok (.getfield 34, 3) := by decide +kernel
theorem dX7_looked_105 : decode cX7_looked 105 = .ok (.iload 6, 2) := by decide +kernel
theorem dX7_looked_107 : decode cX7_looked 107 = .ok (.iaload, 1) := by decide +kernel
theorem dX7_looked_108 : decode cX7_looked 108 = .ok (.aload_n 0, 1) := by decide +kernel
theorem dX7_looked_109 : decode cX7_looked 109 = .ok (.getfield 22, 3) := by decide +kernel
theorem dX7_looked_112 : decode cX7_looked 112 = .ok (.aload_n 0, 1) := by decide +kernel
theorem dX7_looked_113 : decode cX7_looked 113 = .ok (.getfield 77, 3) := by decide +kernel
theorem dX7_looked_116 : decode cX7_looked 116 = .ok (.iload 7, 2) := by decide +kernel
theorem dX7_looked_118 : decode cX7_looked 118 = .ok (.iaload, 1) := by decide +kernel
theorem dX7_looked_119 : decode cX7_looked 119 = .ok (.iaload, 1) := by decide +kernel
theorem dX7_looked_120 : decode cX7_looked 120 = .ok (.iand, 1) := by decide +kernel
theorem dX7_looked_121 : decode cX7_looked 121 = .ok (.ifCond .eq 6, 3) := by decide +kernel
theorem dX7_looked_124 : decode cX7_looked 124 = .ok (.goto (-98), 3) := by decide +kernel
theorem dX7_looked_127 : decode cX7_looked 127 = .ok (.aload_n 1, 1) := by decide +kernel
theorem dX7_looked_128 : decode cX7_looked 128 = .ok (.iload_n 3, 1) := by decide +kernel
theorem dX7_looked_129 : decode cX7_looked 129 = .ok (.iload 6, 2) := by decide +kernel
theorem dX7_looked_131 : decode cX7_looked 131 = .ok (.iconst 1, 1) := by decide +kernel
theorem dX7_looked_132 : decode cX7_looked 132 = .ok (.aload_n 0, 1) := by decide +kernel
theorem dX7_looked_133 : decode cX7_looked 133 = .ok (.getfield 77, 3) := by decide +kernel
theorem dX7_looked_136 : decode cX7_looked 136 = .ok (.iload 7, 2) := by decide +kernel
theorem dX7_looked_138 : decode cX7_looked 138 = .ok (.iaload, 1) := by decide +kernel
theorem dX7_looked_139 : decode cX7_looked 139 = .ok (.ishl, 1) := by decide +kernel
theorem dX7_looked_140 : decode cX7_looked 140 = .ok (.ior, 1) := by decide +kernel
theorem dX7_looked_141 : decode cX7_looked 141 = .ok (.iastore, 1) := by decide +kernel
theorem dX7_looked_142 : decode cX7_looked 142 = .ok (.aload_n 2, 1) := by decide +kernel
theorem dX7_looked_143 : decode cX7_looked 143 = .ok (.iload_n 3, 1) := by decide +kernel
theorem dX7_looked_144 : decode cX7_looked 144 = .ok (.iload 7, 2) := by decide +kernel
theorem dX7_looked_146 : decode cX7_looked 146 = .ok (.iconst 1, 1) := by decide +kernel
theorem dX7_looked_147 : decode cX7_looked 147 = .ok (.iadd, 1) := by decide +kernel
theorem dX7_looked_148 : decode cX7_looked 148 = .ok (.iastore, 1) := by decide +kernel
theorem dX7_looked_149 : decode cX7_looked 149 = .ok (.iinc 3 1, 3) := by decide +kernel
theorem dX7_looked_152 : decode cX7_looked 152 = .ok (.goto (-126), 3) := by decide +kernel
theorem dX7_looked_155 : decode cX7_looked 155 = .ok (.iload 5, 2) := by decide +kernel
theorem dX7_looked_157 : decode cX7_looked 157 = .ok (.ireturn, 1) := by decide +kernel
theorem dX7_bid_0 : decode cX7_bid 0 = .ok (.aload_n 0, 1) := by decide +kernel
theorem dX7_bid_1 : decode cX7_bid 1 = .ok (.iload_n 1, 1) := by decide +kernel
theorem dX7_bid_2 : decode cX7_bid 2 = .ok (.invokevirtual 202, 3) := by decide +kernel
theorem dX7_bid_5 : decode cX7_bid 5 = .ok (.ifCond .ne 9, 3) := by decide +kernel
theorem dX7_bid_8 : decode cX7_bid 8 = .ok (.aload_n 0, 1) := by decide +kernel
theorem dX7_bid_9 : decode cX7_bid 9 = .ok (.iconst (-1), 1) := by decide +kernel
theorem dX7_bid_10 : decode cX7_bid 10 = .ok (.invokevirtual 136, 3) := by decide +kernel
theorem dX7_bid_13 : decode cX7_bid 13 = .ok (.ireturn, 1) := by decide +kernel
theorem dX7_bid_14 : decode cX7_bid 14 = .ok (.iload_n 2, 1) := by decide +kernel
theorem dX7_bid_15 : decode cX7_bid 15 = .ok (.tableswitch 82 0 5 #[37, 44, 51, 58, 67, 76], 37) := by decide +kernel
theorem dX7_bid_52 : decode cX7_bid 52 = .ok (.aload_n 0, 1) := by decide +kernel
theorem dX7_bid_53 : decode cX7_bid 53 = .ok (.getfield 19, 3) := by decide +kernel
theorem dX7_bid_56 : decode cX7_bid 56 = .ok (.iload_n 1, 1) := by decide +kernel
theorem dX7_bid_57 : decode cX7_bid 57 = .ok (.iaload, 1) := by decide +kernel
theorem dX7_bid_58 : decode cX7_bid 58 = .ok (.ireturn, 1) := by decide +kernel
theorem dX7_bid_59 : decode cX7_bid 59 = .ok (.aload_n 0, 1) := by decide +kernel
theorem dX7_bid_60 : decode cX7_bid 60 = .ok (.getfield 22, 3) := by decide +kernel
theorem dX7_bid_63 : decode cX7_bid 63 = .ok (.iload_n 1, 1) := by decide +kernel
theorem dX7_bid_64 : decode cX7_bid 64 = .ok (.iaload, 1) := by decide +kernel
theorem dX7_bid_65 : decode cX7_bid 65 = .ok (.ireturn, 1) := by decide +kernel
theorem dX7_bid_66 : decode cX7_bid 66 = .ok (.aload_n 0, 1) := by decide +kernel
theorem dX7_bid_67 : decode cX7_bid 67 = .ok (.getfield 25, 3) := by decide +kernel
theorem dX7_bid_70 : decode cX7_bid 70 = .ok (.iload_n 1, 1) := by decide +kernel
theorem dX7_bid_71 : decode cX7_bid 71 = .ok (.iaload, 1) := by decide +kernel
theorem dX7_bid_72 : decode cX7_bid 72 = .ok (.ireturn, 1) := by decide +kernel
theorem dX7_bid_73 : decode cX7_bid 73 = .ok (.aload_n 0, 1) := by decide +kernel
theorem dX7_bid_74 : decode cX7_bid 74 = .ok (.getfield 127, 3) := by decide +kernel
theorem dX7_bid_77 : decode cX7_bid 77 = .ok (.iload_n 1, 1) := by decide +kernel
theorem dX7_bid_78 : decode cX7_bid 78 = .ok (.ishr, 1) := by decide +kernel
theorem dX7_bid_79 : decode cX7_bid 79 = .ok (.iconst 1, 1) := by decide +kernel
theorem dX7_bid_80 : decode cX7_bid 80 = .ok (.iand, 1) := by decide +kernel
theorem dX7_bid_81 : decode cX7_bid 81 = .ok (.ireturn, 1) := by decide +kernel
theorem dX7_bid_82 : decode cX7_bid 82 = .ok (.aload_n 0, 1) := by decide +kernel
theorem dX7_bid_83 : decode cX7_bid 83 = .ok (.invokevirtual 219, 3) := by decide +kernel
theorem dX7_bid_86 : decode cX7_bid 86 = .ok (.iload_n 1, 1) := by decide +kernel
theorem dX7_bid_87 : decode cX7_bid 87 = .ok (.ishr, 1) := by decide +kernel
theorem dX7_bid_88 : decode cX7_bid 88 = .ok (.iconst 1, 1) := by decide +kernel
theorem dX7_bid_89 : decode cX7_bid 89 = .ok (.iand, 1) := by decide +kernel
theorem dX7_bid_90 : decode cX7_bid 90 = .ok (.ireturn, 1) := by decide +kernel
theorem dX7_bid_91 : decode cX7_bid 91 = .ok (.aload_n 0, 1) := by decide +kernel
theorem dX7_bid_92 : decode cX7_bid 92 = .ok (.iload_n 1, 1) := by decide +kernel
theorem dX7_bid_93 : decode cX7_bid 93 = .ok (.invokevirtual 222, 3) := by decide +kernel
theorem dX7_bid_96 : decode cX7_bid 96 = .ok (.ireturn, 1) := by decide +kernel
theorem dX7_bid_97 : decode cX7_bid 97 = .ok (.aload_n 0, 1) := by decide +kernel
theorem dX7_bid_98 : decode cX7_bid 98 = .ok (.bipush (-2), 2) := by decide +kernel
theorem dX7_bid_100 : decode cX7_bid 100 = .ok (.invokevirtual 136, 3) := by decide +kernel
theorem dX7_bid_103 : decode cX7_bid 103 = .ok (.ireturn, 1) := by decide +kernel
theorem dX7_ownNow_0 : decode cX7_ownNow 0 = .ok (.aload_n 0, 1) := by decide +kernel
theorem dX7_ownNow_1 : decode cX7_ownNow 1 = .ok (.invokevirtual 108, 3) := by decide +kernel
theorem dX7_ownNow_4 : decode cX7_ownNow 4 = .ok (.aload_n 0, 1) := by decide +kernel
theorem dX7_ownNow_5 : decode cX7_ownNow 5 = .ok (.getfield 37, 3) := by decide +kernel
theorem dX7_ownNow_8 : decode cX7_ownNow 8 = .ok (.iload_n 1, 1) := by decide +kernel
theorem dX7_ownNow_9 : decode cX7_ownNow 9 = .ok (.iaload, 1) := by decide +kernel
theorem dX7_ownNow_10 : decode cX7_ownNow 10 = .ok (.ireturn, 1) := by decide +kernel
theorem dX7_pricesOf_0 : decode cX7_pricesOf 0 = .ok (.iconst 0, 1) := by decide +kernel
theorem dX7_pricesOf_1 : decode cX7_pricesOf 1 = .ok (.istore_n 2, 1) := by decide +kernel
theorem dX7_pricesOf_2 : decode cX7_pricesOf 2 = .ok (.iconst 0, 1) := by decide +kernel
theorem dX7_pricesOf_3 : decode cX7_pricesOf 3 = .ok (.istore_n 3, 1) := by decide +kernel
theorem dX7_pricesOf_4 : decode cX7_pricesOf 4 = .ok (.iload_n 3, 1) := by decide +kernel
theorem dX7_pricesOf_5 : decode cX7_pricesOf 5 = .ok (.aload_n 0, 1) := by decide +kernel
theorem dX7_pricesOf_6 : decode cX7_pricesOf 6 = .ok (.getfield 93, 3) := by decide +kernel
theorem dX7_pricesOf_9 : decode cX7_pricesOf 9 = .ok (.if_icmp .ge 30, 3) := by decide +kernel
theorem dX7_pricesOf_12 : decode cX7_pricesOf 12 = .ok (.iload_n 2, 1) := by decide +kernel
theorem dX7_pricesOf_13 : decode cX7_pricesOf 13 = .ok (.iload_n 1, 1) := by decide +kernel
theorem dX7_pricesOf_14 : decode cX7_pricesOf 14 = .ok (.iload_n 3, 1) := by decide +kernel
theorem dX7_pricesOf_15 : decode cX7_pricesOf 15 = .ok (.invokestatic 104, 3) := by decide +kernel
theorem dX7_pricesOf_18 : decode cX7_pricesOf 18 = .ok (.ifCond .eq 12, 3) := by decide +kernel
theorem dX7_pricesOf_21 : decode cX7_pricesOf 21 = .ok (.aload_n 0, 1) := by decide +kernel
theorem dX7_pricesOf_22 : decode cX7_pricesOf 22 = .ok (.getfield 25, 3) := by decide +kernel
theorem dX7_pricesOf_25 : decode cX7_pricesOf 25 = .ok (.iload_n 3, 1) := by decide +kernel
theorem dX7_pricesOf_26 : decode cX7_pricesOf 26 = .ok (.iaload, 1) := by decide +kernel
theorem dX7_pricesOf_27 : decode cX7_pricesOf 27 = .ok (.goto 4, 3) := by decide +kernel
theorem dX7_pricesOf_30 : decode cX7_pricesOf 30 = .ok (.iconst 0, 1) := by decide +kernel
theorem dX7_pricesOf_31 : decode cX7_pricesOf 31 = .ok (.iadd, 1) := by decide +kernel
theorem dX7_pricesOf_32 : decode cX7_pricesOf 32 = .ok (.istore_n 2, 1) := by decide +kernel
theorem dX7_pricesOf_33 : decode cX7_pricesOf 33 = .ok (.iinc 3 1, 3) := by decide +kernel
theorem dX7_pricesOf_36 : decode cX7_pricesOf 36 = .ok (.goto (-32), 3) := by decide +kernel
theorem dX7_pricesOf_39 : decode cX7_pricesOf 39 = .ok (.iload_n 2, 1) := by decide +kernel
theorem dX7_pricesOf_40 : decode cX7_pricesOf 40 = .ok (.ireturn, 1) := by decide +kernel
theorem dX7_harmOf_0 : decode cX7_harmOf 0 = .ok (.aload_n 0, 1) := by decide +kernel
theorem dX7_harmOf_1 : decode cX7_harmOf 1 = .ok (.invokevirtual 219, 3) := by decide +kernel
theorem dX7_harmOf_4 : decode cX7_harmOf 4 = .ok (.istore_n 2, 1) := by decide +kernel
theorem dX7_harmOf_5 : decode cX7_harmOf 5 = .ok (.aload_n 0, 1) := by decide +kernel
theorem dX7_harmOf_6 : decode cX7_harmOf 6 = .ok (.aload_n 0, 1) := by decide +kernel
theorem dX7_harmOf_7 : decode cX7_harmOf 7 = .ok (.getfield 127, 3) := by decide +kernel
theorem dX7_harmOf_10 : decode cX7_harmOf 10 = .ok (.iload_n 1, 1) := by decide +kernel
theorem dX7_harmOf_11 : decode cX7_harmOf 11 = .ok (.iconst (-1), 1) := by decide +kernel
theorem dX7_harmOf_12 : decode cX7_harmOf 12 = .ok (.ixor, 1) := by decide +kernel
theorem dX7_harmOf_13 : decode cX7_harmOf 13 = .ok (.iand, 1) := by decide +kernel
theorem dX7_harmOf_14 : decode cX7_harmOf 14 = .ok (.invokevirtual 225, 3) := by decide +kernel
theorem dX7_harmOf_17 : decode cX7_harmOf 17 = .ok (.aload_n 0, 1) := by decide +kernel
theorem dX7_harmOf_18 : decode cX7_harmOf 18 = .ok (.getfield 31, 3) := by decide +kernel
theorem dX7_harmOf_21 : decode cX7_harmOf 21 = .ok (.iload_n 2, 1) := by decide +kernel
theorem dX7_harmOf_22 : decode cX7_harmOf 22 = .ok (.iaload, 1) := by decide +kernel
theorem dX7_harmOf_23 : decode cX7_harmOf 23 = .ok (.aload_n 0, 1) := by decide +kernel
theorem dX7_harmOf_24 : decode cX7_harmOf 24 = .ok (.iload_n 2, 1) := by decide +kernel
theorem dX7_harmOf_25 : decode cX7_harmOf 25 = .ok (.iload_n 1, 1) := by decide +kernel
theorem dX7_harmOf_26 : decode cX7_harmOf 26 = .ok (.iand, 1) := by decide +kernel
theorem dX7_harmOf_27 : decode cX7_harmOf 27 = .ok (.invokevirtual 228, 3) := by decide +kernel
theorem dX7_harmOf_30 : decode cX7_harmOf 30 = .ok (.isub, 1) := by decide +kernel
theorem dX7_harmOf_31 : decode cX7_harmOf 31 = .ok (.isub, 1) := by decide +kernel
theorem dX7_harmOf_32 : decode cX7_harmOf 32 = .ok (.ireturn, 1) := by decide +kernel
theorem dX7_bidder_0 : decode cX7_bidder 0 = .ok (.iload_n 1, 1) := by decide +kernel
theorem dX7_bidder_1 : decode cX7_bidder 1 = .ok (.iconst 0, 1) := by decide +kernel
theorem dX7_bidder_2 : decode cX7_bidder 2 = .ok (.iconst 4, 1) := by decide +kernel
theorem dX7_bidder_3 : decode cX7_bidder 3 = .ok (.invokestatic 96, 3) := by decide +kernel
theorem dX7_bidder_6 : decode cX7_bidder 6 = .ok (.ifCond .ne 9, 3) := by decide +kernel
theorem dX7_bidder_9 : decode cX7_bidder 9 = .ok (.aload_n 0, 1) := by decide +kernel
theorem dX7_bidder_10 : decode cX7_bidder 10 = .ok (.iconst (-1), 1) := by decide +kernel
theorem dX7_bidder_11 : decode cX7_bidder 11 = .ok (.invokevirtual 136, 3) := by decide +kernel
theorem dX7_bidder_14 : decode cX7_bidder 14 = .ok (.ireturn, 1) := by decide +kernel
theorem dX7_bidder_15 : decode cX7_bidder 15 = .ok (.aload_n 0, 1) := by decide +kernel
theorem dX7_bidder_16 : decode cX7_bidder 16 = .ok (.iload_n 1, 1) := by decide +kernel
theorem dX7_bidder_17 : decode cX7_bidder 17 = .ok (.invokevirtual 231, 3) := by decide +kernel
theorem dX7_bidder_20 : decode cX7_bidder 20 = .ok (.istore_n 3, 1) := by decide +kernel
theorem dX7_bidder_21 : decode cX7_bidder 21 = .ok (.iload_n 2, 1) := by decide +kernel
theorem dX7_bidder_22 : decode cX7_bidder 22 = .ok (.tableswitch 67 0 4 #[34, 41, 48, 50, 61], 34) := by decide +kernel
theorem dX7_bidder_56 : decode cX7_bidder 56 = .ok (.aload_n 0, 1) := by decide +kernel
theorem dX7_bidder_57 : decode cX7_bidder 57 = .ok (.getfield 13, 3) := by decide +kernel
theorem dX7_bidder_60 : decode cX7_bidder 60 = .ok (.iload_n 1, 1) := by decide +kernel
theorem dX7_bidder_61 : decode cX7_bidder 61 = .ok (.iaload, 1) := by decide +kernel
theorem dX7_bidder_62 : decode cX7_bidder 62 = .ok (.ireturn, 1) := by decide +kernel
theorem dX7_bidder_63 : decode cX7_bidder 63 = .ok (.aload_n 0, 1) := by decide +kernel
theorem dX7_bidder_64 : decode cX7_bidder 64 = .ok (.getfield 16, 3) := by decide +kernel
theorem dX7_bidder_67 : decode cX7_bidder 67 = .ok (.iload_n 1, 1) := by decide +kernel
theorem dX7_bidder_68 : decode cX7_bidder 68 = .ok (.iaload, 1) := by decide +kernel
theorem dX7_bidder_69 : decode cX7_bidder 69 = .ok (.ireturn, 1) := by decide +kernel
theorem dX7_bidder_70 : decode cX7_bidder 70 = .ok (.iload_n 3, 1) := by decide +kernel
theorem dX7_bidder_71 : decode cX7_bidder 71 = .ok (.ireturn, 1) := by decide +kernel
theorem dX7_bidder_72 : decode cX7_bidder 72 = .ok (.aload_n 0, 1) := by decide +kernel
theorem dX7_bidder_73 : decode cX7_bidder 73 = .ok (.aload_n 0, 1) := by decide +kernel
theorem dX7_bidder_74 : decode cX7_bidder 74 = .ok (.invokevirtual 219, 3) := by decide +kernel
theorem dX7_bidder_77 : decode cX7_bidder 77 = .ok (.iload_n 3, 1) := by decide +kernel
theorem dX7_bidder_78 : decode cX7_bidder 78 = .ok (.iand, 1) := by decide +kernel
theorem dX7_bidder_79 : decode cX7_bidder 79 = .ok (.invokevirtual 228, 3) := by decide +kernel
theorem dX7_bidder_82 : decode cX7_bidder 82 = .ok (.ireturn, 1) := by decide +kernel
theorem dX7_bidder_83 : decode cX7_bidder 83 = .ok (.aload_n 0, 1) := by decide +kernel
theorem dX7_bidder_84 : decode cX7_bidder 84 = .ok (.iload_n 3, 1) := by decide +kernel
theorem dX7_bidder_85 : decode cX7_bidder 85 = .ok (.invokevirtual 234, 3) := by decide +kernel
theorem dX7_bidder_88 : decode cX7_bidder 88 = .ok (.ireturn, 1) := by decide +kernel
theorem dX7_bidder_89 : decode cX7_bidder 89 = .ok (.aload_n 0, 1) := by decide +kernel
theorem dX7_bidder_90 : decode cX7_bidder 90 = .ok (.bipush (-2), 2) := by decide +kernel
theorem dX7_bidder_92 : decode cX7_bidder 92 = .ok (.invokevirtual 136, 3) := by decide +kernel
theorem dX7_bidder_95 : decode cX7_bidder 95 = .ok (.ireturn, 1) := by decide +kernel
theorem dX7_may_0 : decode cX7_may 0 = .ok (.iload_n 1, 1) := by decide +kernel
theorem dX7_may_1 : decode cX7_may 1 = .ok (.ifCond .ge 10, 3) := by decide +kernel
theorem dX7_may_4 : decode cX7_may 4 = .ok (.aload_n 0, 1) := by decide +kernel
theorem dX7_may_5 : decode cX7_may 5 = .ok (.bipush (-4), 2) := by decide +kernel
theorem dX7_may_7 : decode cX7_may 7 = .ok (.invokevirtual 136, 3) := by decide +kernel
theorem dX7_may_10 : decode cX7_may 10 = .ok (.ireturn, 1) := by decide +kernel
theorem dX7_may_11 : decode cX7_may 11 = .ok (.iload_n 1, 1) := by decide +kernel
theorem dX7_may_12 : decode cX7_may 12 = .ok (.iconst 1, 1) := by decide +kernel
theorem dX7_may_13 : decode cX7_may 13 = .ok (.aload_n 0, 1) := by decide +kernel
theorem dX7_may_14 : decode cX7_may 14 = .ok (.getfield 93, 3) := by decide +kernel
theorem dX7_may_17 : decode cX7_may 17 = .ok (.ishl, 1) := by decide +kernel
theorem dX7_may_18 : decode cX7_may 18 = .ok (.if_icmp .lt 10, 3) := by decide +kernel
theorem dX7_may_21 : decode cX7_may 21 = .ok (.aload_n 0, 1) := by decide +kernel
theorem dX7_may_22 : decode cX7_may 22 = .ok (.bipush (-6), 2) := by decide +kernel
theorem dX7_may_24 : decode cX7_may 24 = .ok (.invokevirtual 136, 3) := by decide +kernel
theorem dX7_may_27 : decode cX7_may 27 = .ok (.ireturn, 1) := by decide +kernel
theorem dX7_may_28 : decode cX7_may 28 = .ok (.aload_n 0, 1) := by decide +kernel
theorem dX7_may_29 : decode cX7_may 29 = .ok (.invokevirtual 124, 3) := by decide +kernel
theorem dX7_may_32 : decode cX7_may 32 = .ok (.iload_n 1, 1) := by decide +kernel
theorem dX7_may_33 : decode cX7_may 33 = .ok (.aload_n 0, 1) := by decide +kernel
theorem dX7_may_34 : decode cX7_may 34 = .ok (.getfield 127, 3) := by decide +kernel
theorem dX7_may_37 : decode cX7_may 37 = .ok (.iconst (-1), 1) := by decide +kernel
theorem dX7_may_38 : decode cX7_may 38 = .ok (.ixor, 1) := by decide +kernel
theorem dX7_may_39 : decode cX7_may 39 = .ok (.iand, 1) := by decide +kernel
theorem dX7_may_40 : decode cX7_may 40 = .ok (.ifCond .ne 16, 3) := by decide +kernel
theorem dX7_may_43 : decode cX7_may 43 = .ok (.aload_n 0, 1) := by decide +kernel
theorem dX7_may_44 : decode cX7_may 44 = .ok (.getfield 31, 3) := by decide +kernel
theorem dX7_may_47 : decode cX7_may 47 = .ok (.iload_n 1, 1) := by decide +kernel
theorem dX7_may_48 : decode cX7_may 48 = .ok (.iaload, 1) := by decide +kernel
theorem dX7_may_49 : decode cX7_may 49 = .ok (.ifCond .lt 7, 3) := by decide +kernel
theorem dX7_may_52 : decode cX7_may 52 = .ok (.iconst 1, 1) := by decide +kernel
theorem dX7_may_53 : decode cX7_may 53 = .ok (.goto 4, 3) := by decide +kernel
theorem dX7_may_56 : decode cX7_may 56 = .ok (.iconst 0, 1) := by decide +kernel
theorem dX7_may_57 : decode cX7_may 57 = .ok (.ireturn, 1) := by decide +kernel
theorem dX7_winners_0 : decode cX7_winners 0 = .ok (.aload_n 0, 1) := by decide +kernel
theorem dX7_winners_1 : decode cX7_winners 1 = .ok (.invokevirtual 219, 3) := by decide +kernel
theorem dX7_winners_4 : decode cX7_winners 4 = .ok (.istore_n 2, 1) := by decide +kernel
theorem dX7_winners_5 : decode cX7_winners 5 = .ok (.iload_n 1, 1) := by decide +kernel
theorem dX7_winners_6 : decode cX7_winners 6 = .ok (.tableswitch 51 0 3 #[30, 32, 39, 46], 30) := by decide +kernel
theorem dX7_winners_36 : decode cX7_winners 36 = .ok (.iload_n 2, 1) := by decide +kernel
theorem dX7_winners_37 : decode cX7_winners 37 = .ok (.ireturn, 1) := by decide +kernel
theorem dX7_winners_38 : decode cX7_winners 38 = .ok (.aload_n 0, 1) := by decide +kernel
theorem dX7_winners_39 : decode cX7_winners 39 = .ok (.getfield 31, 3) := by decide +kernel
theorem dX7_winners_42 : decode cX7_winners 42 = .ok (.iload_n 2, 1) := by decide +kernel
theorem dX7_winners_43 : decode cX7_winners 43 = .ok (.iaload, 1) := by decide +kernel
theorem dX7_winners_44 : decode cX7_winners 44 = .ok (.ireturn, 1) := by decide +kernel
theorem dX7_winners_45 : decode cX7_winners 45 = .ok (.aload_n 0, 1) := by decide +kernel
theorem dX7_winners_46 : decode cX7_winners 46 = .ok (.getfield 34, 3) := by decide +kernel
theorem dX7_winners_49 : decode cX7_winners 49 = .ok (.iload_n 2, 1) := by decide +kernel
theorem dX7_winners_50 : decode cX7_winners 50 = .ok (.iaload, 1) := by decide +kernel
theorem dX7_winners_51 : decode cX7_winners 51 = .ok (.ireturn, 1) := by decide +kernel
theorem dX7_winners_52 : decode cX7_winners 52 = .ok (.aload_n 0, 1) := by decide +kernel
theorem dX7_winners_53 : decode cX7_winners 53 = .ok (.invokevirtual 237, 3) := by decide +kernel
theorem dX7_winners_56 : decode cX7_winners 56 = .ok (.ireturn, 1) := by decide +kernel
theorem dX7_winners_57 : decode cX7_winners 57 = .ok (.aload_n 0, 1) := by decide +kernel
theorem dX7_winners_58 : decode cX7_winners 58 = .ok (.bipush (-2), 2) := by decide +kernel
theorem dX7_winners_60 : decode cX7_winners 60 = .ok (.invokevirtual 136, 3) := by decide +kernel
theorem dX7_winners_63 : decode cX7_winners 63 = .ok (.ireturn, 1) := by decide +kernel
theorem dX7_isOutcome_0 : decode cX7_isOutcome 0 = .ok (.iload_n 1, 1) := by decide +kernel
theorem dX7_isOutcome_1 : decode cX7_isOutcome 1 = .ok (.aload_n 0, 1) := by decide +kernel
theorem dX7_isOutcome_2 : decode cX7_isOutcome 2 = .ok (.getfield 127, 3) := by decide +kernel
theorem dX7_isOutcome_5 : decode cX7_isOutcome 5 = .ok (.iconst (-1), 1) := by decide +kernel
theorem dX7_isOutcome_6 : decode cX7_isOutcome 6 = .ok (.ixor, 1) := by decide +kernel
theorem dX7_isOutcome_7 : decode cX7_isOutcome 7 = .ok (.iand, 1) := by decide +kernel
theorem dX7_isOutcome_8 : decode cX7_isOutcome 8 = .ok (.ifCond .ne 16, 3) := by decide +kernel
theorem dX7_isOutcome_11 : decode cX7_isOutcome 11 = .ok (.aload_n 0, 1) := by decide +kernel
theorem dX7_isOutcome_12 : decode cX7_isOutcome 12 = .ok (.getfield 31, 3) := by decide +kernel
theorem dX7_isOutcome_15 : decode cX7_isOutcome 15 = .ok (.iload_n 1, 1) := by decide +kernel
theorem dX7_isOutcome_16 : decode cX7_isOutcome 16 = .ok (.iaload, 1) := by decide +kernel
theorem dX7_isOutcome_17 : decode cX7_isOutcome 17 = .ok (.ifCond .lt 7, 3) := by decide +kernel
theorem dX7_isOutcome_20 : decode cX7_isOutcome 20 = .ok (.iconst 1, 1) := by decide +kernel
theorem dX7_isOutcome_21 : decode cX7_isOutcome 21 = .ok (.goto 4, 3) := by decide +kernel
theorem dX7_isOutcome_24 : decode cX7_isOutcome 24 = .ok (.iconst 0, 1) := by decide +kernel
theorem dX7_isOutcome_25 : decode cX7_isOutcome 25 = .ok (.ireturn, 1) := by decide +kernel
theorem dX7_rank_0 : decode cX7_rank 0 = .ok (.iload_n 1, 1) := by decide +kernel
theorem dX7_rank_1 : decode cX7_rank 1 = .ok (.ifCond .ge 10, 3) := by decide +kernel
theorem dX7_rank_4 : decode cX7_rank 4 = .ok (.aload_n 0, 1) := by decide +kernel
theorem dX7_rank_5 : decode cX7_rank 5 = .ok (.bipush (-4), 2) := by decide +kernel
theorem dX7_rank_7 : decode cX7_rank 7 = .ok (.invokevirtual 136, 3) := by decide +kernel
theorem dX7_rank_10 : decode cX7_rank 10 = .ok (.ireturn, 1) := by decide +kernel
theorem dX7_rank_11 : decode cX7_rank 11 = .ok (.iload_n 2, 1) := by decide +kernel
theorem dX7_rank_12 : decode cX7_rank 12 = .ok (.iconst 0, 1) := by decide +kernel
theorem dX7_rank_13 : decode cX7_rank 13 = .ok (.iconst 1, 1) := by decide +kernel
theorem dX7_rank_14 : decode cX7_rank 14 = .ok (.invokestatic 96, 3) := by decide +kernel
theorem dX7_rank_17 : decode cX7_rank 17 = .ok (.ifCond .ne 10, 3) := by decide +kernel
theorem dX7_rank_20 : decode cX7_rank 20 = .ok (.aload_n 0, 1) := by decide +kernel
theorem dX7_rank_21 : decode cX7_rank 21 = .ok (.bipush (-2), 2) := by decide +kernel
theorem dX7_rank_23 : decode cX7_rank 23 = .ok (.invokevirtual 136, 3) := by decide +kernel
theorem dX7_rank_26 : decode cX7_rank 26 = .ok (.ireturn, 1) := by decide +kernel
theorem dX7_rank_27 : decode cX7_rank 27 = .ok (.aload_n 0, 1) := by decide +kernel
theorem dX7_rank_28 : decode cX7_rank 28 = .ok (.invokevirtual 124, 3) := by decide +kernel
theorem dX7_rank_31 : decode cX7_rank 31 = .ok (.bipush (-9), 2) := by decide +kernel
theorem dX7_rank_33 : decode cX7_rank 33 = .ok (.istore_n 3, 1) := by decide +kernel
theorem dX7_rank_34 : decode cX7_rank 34 = .ok (.iconst 0, 1) := by decide +kernel
theorem dX7_rank_35 : decode cX7_rank 35 = .ok (.istore 4, 2) := by decide +kernel
theorem dX7_rank_37 : decode cX7_rank 37 = .ok (.iload 4, 2) := by decide +kernel
theorem dX7_rank_39 : decode cX7_rank 39 = .ok (.iload_n 1, 1) := by decide +kernel
theorem dX7_rank_40 : decode cX7_rank 40 = .ok (.if_icmp .gt 87, 3) := by decide +kernel
theorem dX7_rank_43 : decode cX7_rank 43 = .ok (.bipush (-9), 2) := by decide +kernel
theorem dX7_rank_45 : decode cX7_rank 45 = .ok (.istore 5, 2) := by decide +kernel
theorem dX7_rank_47 : decode cX7_rank 47 = .ok (.iconst 0, 1) := by decide +kernel
theorem dX7_rank_48 : decode cX7_rank 48 = .ok (.istore 6, 2) := by decide +kernel
theorem dX7_rank_50 : decode cX7_rank 50 = .ok (.iload 6, 2) := by decide +kernel
theorem dX7_rank_52 : decode cX7_rank 52 = .ok (.iconst 1, 1) := by decide +kernel
theorem dX7_rank_53 : decode cX7_rank 53 = .ok (.aload_n 0, 1) := by decide +kernel
theorem dX7_rank_54 : decode cX7_rank 54 = .ok (.getfield 93, 3) := by decide +kernel
theorem dX7_rank_57 : decode cX7_rank 57 = .ok (.ishl, 1) := by decide +kernel
theorem dX7_rank_58 : decode cX7_rank 58 = .ok (.if_icmp .ge 52, 3) := by decide +kernel
theorem dX7_rank_61 : decode cX7_rank 61 = .ok (.aload_n 0, 1) := by decide +kernel
theorem dX7_rank_62 : decode cX7_rank 62 = .ok (.iload 6, 2) := by decide +kernel
theorem dX7_rank_64 : decode cX7_rank 64 = .ok (.invokevirtual 240, 3) := by decide +kernel
theorem dX7_rank_67 : decode cX7_rank 67 = .ok (.ifCond .eq 37, 3) := by decide +kernel
theorem dX7_rank_70 : decode cX7_rank 70 = .ok (.iload_n 3, 1) := by decide +kernel
theorem dX7_rank_71 : decode cX7_rank 71 = .ok (.ifCond .lt 13, 3) := by decide +kernel
theorem dX7_rank_74 : decode cX7_rank 74 = .ok (.aload_n 0, 1) := by decide +kernel
theorem dX7_rank_75 : decode cX7_rank 75 = .ok (.iload_n 3, 1) := by decide +kernel
theorem dX7_rank_76 : decode cX7_rank 76 = .ok (.iload 6, 2) := by decide +kernel
theorem dX7_rank_78 : decode cX7_rank 78 = .ok (.invokevirtual 130, 3) := by decide +kernel
theorem dX7_rank_81 : decode cX7_rank 81 = .ok (.ifCond .eq 23, 3) := by decide +kernel
theorem dX7_rank_84 : decode cX7_rank 84 = .ok (.iload 5, 2) := by decide +kernel
theorem dX7_rank_86 : decode cX7_rank 86 = .ok (.ifCond .lt 14, 3) := by decide +kernel
theorem dX7_rank_89 : decode cX7_rank 89 = .ok (.aload_n 0, 1) := by decide +kernel
theorem dX7_rank_90 : decode cX7_rank 90 = .ok (.iload 6, 2) := by decide +kernel
theorem dX7_rank_92 : decode cX7_rank 92 = .ok (.iload 5, 2) := by decide +kernel
theorem dX7_rank_94 : decode cX7_rank 94 = .ok (.invokevirtual 130, 3) := by decide +kernel
theorem dX7_rank_97 : decode cX7_rank 97 = .ok (.ifCond .eq 7, 3) := by decide +kernel
theorem dX7_rank_100 : decode cX7_rank 100 = .ok (.iload 6, 2) := by decide +kernel
theorem dX7_rank_102 : decode cX7_rank 102 = .ok (.istore 5, 2) := by decide +kernel
theorem dX7_rank_104 : decode cX7_rank 104 = .ok (.iinc 6 1, 3) := by decide +kernel
theorem dX7_rank_107 : decode cX7_rank 107 = .ok (.goto (-57), 3) := by decide +kernel
theorem dX7_rank_110 : decode cX7_rank 110 = .ok (.iload 5, 2) := by decide +kernel
theorem dX7_rank_112 : decode cX7_rank 112 = .ok (.ifCond .ge 6, 3) := by decide +kernel
theorem dX7_rank_115 : decode cX7_rank 115 = .ok (.bipush (-9), 2) := by decide +kernel
theorem dX7_rank_117 : decode cX7_rank 117 = .ok (.ireturn, 1) := by decide +kernel
theorem dX7_rank_118 : decode cX7_rank 118 = .ok (.iload 5, 2) := by decide +kernel
theorem dX7_rank_120 : decode cX7_rank 120 = .ok (.istore_n 3, 1) := by decide +kernel
theorem dX7_rank_121 : decode cX7_rank 121 = .ok (.iinc 4 1, 3) := by decide +kernel
theorem dX7_rank_124 : decode cX7_rank 124 = .ok (.goto (-87), 3) := by decide +kernel
theorem dX7_rank_127 : decode cX7_rank 127 = .ok (.iload_n 2, 1) := by decide +kernel
theorem dX7_rank_128 : decode cX7_rank 128 = .ok (.ifCond .ne 7, 3) := by decide +kernel
theorem dX7_rank_131 : decode cX7_rank 131 = .ok (.iload_n 3, 1) := by decide +kernel
theorem dX7_rank_132 : decode cX7_rank 132 = .ok (.goto 9, 3) := by decide +kernel
theorem dX7_rank_135 : decode cX7_rank 135 = .ok (.aload_n 0, 1) := by decide +kernel
theorem dX7_rank_136 : decode cX7_rank 136 = .ok (.getfield 31, 3) := by decide +kernel
theorem dX7_rank_139 : decode cX7_rank 139 = .ok (.iload_n 3, 1) := by decide +kernel
theorem dX7_rank_140 : decode cX7_rank 140 = .ok (.iaload, 1) := by decide +kernel
theorem dX7_rank_141 : decode cX7_rank 141 = .ok (.ireturn, 1) := by decide +kernel
theorem dX7_worthLess_0 : decode cX7_worthLess 0 = .ok (.iconst 0, 1) := by decide +kernel
theorem dX7_worthLess_1 : decode cX7_worthLess 1 = .ok (.istore_n 2, 1) := by decide +kernel
theorem dX7_worthLess_2 : decode cX7_worthLess 2 = .ok (.iconst 0, 1) := by decide +kernel
theorem dX7_worthLess_3 : decode cX7_worthLess 3 = .ok (.istore_n 3, 1) := by decide +kernel
theorem dX7_worthLess_4 : decode cX7_worthLess 4 = .ok (.iload_n 3, 1) := by decide +kernel
theorem dX7_worthLess_5 : decode cX7_worthLess 5 = .ok (.aload_n 0, 1) := by decide +kernel
theorem dX7_worthLess_6 : decode cX7_worthLess 6 = .ok (.getfield 93, 3) := by decide +kernel
theorem dX7_worthLess_9 : decode cX7_worthLess 9 = .ok (.if_icmp .ge 32, 3) := by decide +kernel
theorem dX7_worthLess_12 : decode cX7_worthLess 12 = .ok (.iload_n 2, 1) := by decide +kernel
theorem dX7_worthLess_13 : decode cX7_worthLess 13 = .ok (.aload_n 0, 1) := by decide +kernel
theorem dX7_worthLess_14 : decode cX7_worthLess 14 = .ok (.getfield 22, 3) := by decide +kernel
theorem dX7_worthLess_17 : decode cX7_worthLess 17 = .ok (.iload_n 3, 1) := by decide +kernel
theorem dX7_worthLess_18 : decode cX7_worthLess 18 = .ok (.iaload, 1) := by decide +kernel
theorem dX7_worthLess_19 : decode cX7_worthLess 19 = .ok (.iload_n 1, 1) := by decide +kernel
theorem dX7_worthLess_20 : decode cX7_worthLess 20 = .ok (.invokestatic 104, 3) := by decide +kernel
theorem dX7_worthLess_23 : decode cX7_worthLess 23 = .ok (.ifCond .eq 9, 3) := by decide +kernel
theorem dX7_worthLess_26 : decode cX7_worthLess 26 = .ok (.iconst 1, 1) := by decide +kernel
theorem dX7_worthLess_27 : decode cX7_worthLess 27 = .ok (.iload_n 3, 1) := by decide +kernel
theorem dX7_worthLess_28 : decode cX7_worthLess 28 = .ok (.ishl, 1) := by decide +kernel
theorem dX7_worthLess_29 : decode cX7_worthLess 29 = .ok (.goto 4, 3) := by decide +kernel
theorem dX7_worthLess_32 : decode cX7_worthLess 32 = .ok (.iconst 0, 1) := by decide +kernel
theorem dX7_worthLess_33 : decode cX7_worthLess 33 = .ok (.ior, 1) := by decide +kernel
theorem dX7_worthLess_34 : decode cX7_worthLess 34 = .ok (.istore_n 2, 1) := by decide +kernel
theorem dX7_worthLess_35 : decode cX7_worthLess 35 = .ok (.iinc 3 1, 3) := by decide +kernel
theorem dX7_worthLess_38 : decode cX7_worthLess 38 = .ok (.goto (-34), 3) := by decide +kernel
theorem dX7_worthLess_41 : decode cX7_worthLess 41 = .ok (.aload_n 0, 1) := by decide +kernel
theorem dX7_worthLess_42 : decode cX7_worthLess 42 = .ok (.aload_n 0, 1) := by decide +kernel
theorem dX7_worthLess_43 : decode cX7_worthLess 43 = .ok (.getfield 127, 3) := by decide +kernel
theorem dX7_worthLess_46 : decode cX7_worthLess 46 = .ok (.iload_n 2, 1) := by decide +kernel
theorem dX7_worthLess_47 : decode cX7_worthLess 47 = .ok (.iconst (-1), 1) := by decide +kernel
theorem dX7_worthLess_48 : decode cX7_worthLess 48 = .ok (.ixor, 1) := by decide +kernel
theorem dX7_worthLess_49 : decode cX7_worthLess 49 = .ok (.iand, 1) := by decide +kernel
theorem dX7_worthLess_50 : decode cX7_worthLess 50 = .ok (.invokevirtual 225, 3) := by decide +kernel
theorem dX7_worthLess_53 : decode cX7_worthLess 53 = .ok (.aload_n 0, 1) := by decide +kernel
theorem dX7_worthLess_54 : decode cX7_worthLess 54 = .ok (.getfield 9, 3) := by decide +kernel
theorem dX7_worthLess_57 : decode cX7_worthLess 57 = .ok (.iload_n 1, 1) := by decide +kernel
theorem dX7_worthLess_58 : decode cX7_worthLess 58 = .ok (.iaload, 1) := by decide +kernel
theorem dX7_worthLess_59 : decode cX7_worthLess 59 = .ok (.isub, 1) := by decide +kernel
theorem dX7_worthLess_60 : decode cX7_worthLess 60 = .ok (.ireturn, 1) := by decide +kernel
theorem dX7_item_0 : decode cX7_item 0 = .ok (.iload_n 1, 1) := by decide +kernel
theorem dX7_item_1 : decode cX7_item 1 = .ok (.iconst 0, 1) := by decide +kernel
theorem dX7_item_2 : decode cX7_item 2 = .ok (.iconst 5, 1) := by decide +kernel
theorem dX7_item_3 : decode cX7_item 3 = .ok (.invokestatic 96, 3) := by decide +kernel
theorem dX7_item_6 : decode cX7_item 6 = .ok (.ifCond .ne 9, 3) := by decide +kernel
theorem dX7_item_9 : decode cX7_item 9 = .ok (.aload_n 0, 1) := by decide +kernel
theorem dX7_item_10 : decode cX7_item 10 = .ok (.iconst (-1), 1) := by decide +kernel
theorem dX7_item_11 : decode cX7_item 11 = .ok (.invokevirtual 136, 3) := by decide +kernel
theorem dX7_item_14 : decode cX7_item 14 = .ok (.ireturn, 1) := by decide +kernel
theorem dX7_item_15 : decode cX7_item 15 = .ok (.aload_n 0, 1) := by decide +kernel
theorem dX7_item_16 : decode cX7_item 16 = .ok (.invokevirtual 219, 3) := by decide +kernel
theorem dX7_item_19 : decode cX7_item 19 = .ok (.istore_n 3, 1) := by decide +kernel
theorem dX7_item_20 : decode cX7_item 20 = .ok (.iload_n 2, 1) := by decide +kernel
theorem dX7_item_21 : decode cX7_item 21 = .ok (.tableswitch 158 0 3 #[31, 38, 85, 98], 31) := by decide +kernel
theorem dX7_item_52 : decode cX7_item 52 = .ok (.aload_n 0, 1) := by decide +kernel
theorem dX7_item_53 : decode cX7_item 53 = .ok (.getfield 9, 3) := by decide +kernel
theorem dX7_item_56 : decode cX7_item 56 = .ok (.iload_n 1, 1) := by decide +kernel
theorem dX7_item_57 : decode cX7_item 57 = .ok (.iaload, 1) := by decide +kernel
theorem dX7_item_58 : decode cX7_item 58 = .ok (.ireturn, 1) := by decide +kernel
theorem dX7_item_59 : decode cX7_item 59 = .ok (.iconst 0, 1) := by decide +kernel
theorem dX7_item_60 : decode cX7_item 60 = .ok (.istore 4, 2) := by decide +kernel
theorem dX7_item_62 : decode cX7_item 62 = .ok (.iload 4, 2) := by decide +kernel
theorem dX7_item_64 : decode cX7_item 64 = .ok (.aload_n 0, 1) := by decide +kernel
theorem dX7_item_65 : decode cX7_item 65 = .ok (.getfield 93, 3) := by decide +kernel
theorem dX7_item_68 : decode cX7_item 68 = .ok (.if_icmp .ge 35, 3) := by decide +kernel
theorem dX7_item_71 : decode cX7_item 71 = .ok (.iload_n 3, 1) := by decide +kernel
theorem dX7_item_72 : decode cX7_item 72 = .ok (.iload 4, 2) := by decide +kernel
theorem dX7_item_74 : decode cX7_item 74 = .ok (.invokestatic 104, 3) := by decide +kernel
theorem dX7_item_77 : decode cX7_item 77 = .ok (.ifCond .eq 20, 3) := by decide +kernel
theorem dX7_item_80 : decode cX7_item 80 = .ok (.aload_n 0, 1) := by decide +kernel
theorem dX7_item_81 : decode cX7_item 81 = .ok (.getfield 22, 3) := by decide +kernel
theorem dX7_item_84 : decode cX7_item 84 = .ok (.iload 4, 2) := by decide +kernel
theorem dX7_item_86 : decode cX7_item 86 = .ok (.iaload, 1) := by decide +kernel
theorem dX7_item_87 : decode cX7_item 87 = .ok (.iload_n 1, 1) := by decide +kernel
theorem dX7_item_88 : decode cX7_item 88 = .ok (.invokestatic 104, 3) := by decide +kernel
theorem dX7_item_91 : decode cX7_item 91 = .ok (.ifCond .eq 6, 3) := by decide +kernel
theorem dX7_item_94 : decode cX7_item 94 = .ok (.iload 4, 2) := by decide +kernel
theorem dX7_item_96 : decode cX7_item 96 = .ok (.ireturn, 1) := by decide +kernel
theorem dX7_item_97 : decode cX7_item 97 = .ok (.iinc 4 1, 3) := by decide +kernel
theorem dX7_item_100 : decode cX7_item 100 = .ok (.goto (-38), 3) := by decide +kernel
theorem dX7_item_103 : decode cX7_item 103 = .ok (.bipush (-9), 2) := by decide +kernel
theorem dX7_item_105 : decode cX7_item 105 = .ok (.ireturn, 1) := by decide +kernel
theorem dX7_item_106 : decode cX7_item 106 = .ok (.aload_n 0, 1) := by decide +kernel
theorem dX7_item_107 : decode cX7_item 107 = .ok (.getfield 31, 3) := by decide +kernel
theorem dX7_item_110 : decode cX7_item 110 = .ok (.iload_n 3, 1) := by decide +kernel
theorem dX7_item_111 : decode cX7_item 111 = .ok (.iaload, 1) := by decide +kernel
theorem dX7_item_112 : decode cX7_item 112 = .ok (.aload_n 0, 1) := by decide +kernel
theorem dX7_item_113 : decode cX7_item 113 = .ok (.iload_n 1, 1) := by decide +kernel
theorem dX7_item_114 : decode cX7_item 114 = .ok (.invokevirtual 243, 3) := by decide +kernel
theorem dX7_item_117 : decode cX7_item 117 = .ok (.isub, 1) := by decide +kernel
theorem dX7_item_118 : decode cX7_item 118 = .ok (.ireturn, 1) := by decide +kernel
theorem dX7_item_119 : decode cX7_item 119 = .ok (.iconst 0, 1) := by decide +kernel
theorem dX7_item_120 : decode cX7_item 120 = .ok (.istore 4, 2) := by decide +kernel
theorem dX7_item_122 : decode cX7_item 122 = .ok (.iconst 0, 1) := by decide +kernel
theorem dX7_item_123 : decode cX7_item 123 = .ok (.istore 5, 2) := by decide +kernel
theorem dX7_item_125 : decode cX7_item 125 = .ok (.iload 5, 2) := by decide +kernel
theorem dX7_item_127 : decode cX7_item 127 = .ok (.aload_n 0, 1) := by decide +kernel
theorem dX7_item_128 : decode cX7_item 128 = .ok (.getfield 93, 3) := by decide +kernel
theorem dX7_item_131 : decode cX7_item 131 = .ok (.if_icmp .ge 45, 3) := by decide +kernel
theorem dX7_item_134 : decode cX7_item 134 = .ok (.iload 4, 2) := by decide +kernel
theorem dX7_item_136 : decode cX7_item 136 = .ok (.aload_n 0, 1) := by decide +kernel
theorem dX7_item_137 : decode cX7_item 137 = .ok (.getfield 127, 3) := by decide +kernel
theorem dX7_item_140 : decode cX7_item 140 = .ok (.iload 5, 2) := by decide +kernel
theorem dX7_item_142 : decode cX7_item 142 = .ok (.invokestatic 104, 3) := by decide +kernel
theorem dX7_item_145 : decode cX7_item 145 = .ok (.ifCond .eq 21, 3) := by decide +kernel
theorem dX7_item_148 : decode cX7_item 148 = .ok (.aload_n 0, 1) := by decide +kernel
theorem dX7_item_149 : decode cX7_item 149 = .ok (.getfield 22, 3) := by decide +kernel
theorem dX7_item_152 : decode cX7_item 152 = .ok (.iload 5, 2) := by decide +kernel
theorem dX7_item_154 : decode cX7_item 154 = .ok (.iaload, 1) := by decide +kernel
theorem dX7_item_155 : decode cX7_item 155 = .ok (.iload_n 1, 1) := by decide +kernel
theorem dX7_item_156 : decode cX7_item 156 = .ok (.invokestatic 104, 3) := by decide +kernel
theorem dX7_item_159 : decode cX7_item 159 = .ok (.ifCond .eq 7, 3) := by decide +kernel
theorem dX7_item_162 : decode cX7_item 162 = .ok (.iconst 1, 1) := by decide +kernel
theorem dX7_item_163 : decode cX7_item 163 = .ok (.goto 4, 3) := by decide +kernel
theorem dX7_item_166 : decode cX7_item 166 = .ok (.iconst 0, 1) := by decide +kernel
theorem dX7_item_167 : decode cX7_item 167 = .ok (.iadd, 1) := by decide +kernel
theorem dX7_item_168 : decode cX7_item 168 = .ok (.istore 4, 2) := by decide +kernel
theorem dX7_item_170 : decode cX7_item 170 = .ok (.iinc 5 1, 3) := by decide +kernel
theorem dX7_item_173 : decode cX7_item 173 = .ok (.goto (-48), 3) := by decide +kernel
theorem dX7_item_176 : decode cX7_item 176 = .ok (.iload 4, 2) := by decide +kernel
theorem dX7_item_178 : decode cX7_item 178 = .ok (.ireturn, 1) := by decide +kernel
theorem dX7_item_179 : decode cX7_item 179 = .ok (.aload_n 0, 1) := by decide +kernel
theorem dX7_item_180 : decode cX7_item 180 = .ok (.bipush (-2), 2) := by decide +kernel
theorem dX7_item_182 : decode cX7_item 182 = .ok (.invokevirtual 136, 3) := by decide +kernel
theorem dX7_item_185 : decode cX7_item 185 = .ok (.ireturn, 1) := by decide +kernel
theorem dX7_rival_0 : decode cX7_rival 0 = .ok (.aload_n 0, 1) := by decide +kernel
theorem dX7_rival_1 : decode cX7_rival 1 = .ok (.iload_n 1, 1) := by decide +kernel
theorem dX7_rival_2 : decode cX7_rival 2 = .ok (.invokevirtual 202, 3) := by decide +kernel
theorem dX7_rival_5 : decode cX7_rival 5 = .ok (.ifCond .ne 9, 3) := by decide +kernel
theorem dX7_rival_8 : decode cX7_rival 8 = .ok (.aload_n 0, 1) := by decide +kernel
theorem dX7_rival_9 : decode cX7_rival 9 = .ok (.iconst (-1), 1) := by decide +kernel
theorem dX7_rival_10 : decode cX7_rival 10 = .ok (.invokevirtual 136, 3) := by decide +kernel
theorem dX7_rival_13 : decode cX7_rival 13 = .ok (.ireturn, 1) := by decide +kernel
theorem dX7_rival_14 : decode cX7_rival 14 = .ok (.iload_n 2, 1) := by decide +kernel
theorem dX7_rival_15 : decode cX7_rival 15 = .ok (.iconst 0, 1) := by decide +kernel
theorem dX7_rival_16 : decode cX7_rival 16 = .ok (.iconst 2, 1) := by decide +kernel
theorem dX7_rival_17 : decode cX7_rival 17 = .ok (.invokestatic 96, 3) := by decide +kernel
theorem dX7_rival_20 : decode cX7_rival 20 = .ok (.ifCond .ne 10, 3) := by decide +kernel
theorem dX7_rival_23 : decode cX7_rival 23 = .ok (.aload_n 0, 1) := by decide +kernel
theorem dX7_rival_24 : decode cX7_rival 24 = .ok (.bipush (-2), 2) := by decide +kernel
theorem dX7_rival_26 : decode cX7_rival 26 = .ok (.invokevirtual 136, 3) := by decide +kernel
theorem dX7_rival_29 : decode cX7_rival 29 = .ok (.ireturn, 1) := by decide +kernel
theorem dX7_rival_30 : decode cX7_rival 30 = .ok (.iconst 0, 1) := by decide +kernel
theorem dX7_rival_31 : decode cX7_rival 31 = .ok (.istore_n 3, 1) := by decide +kernel
theorem dX7_rival_32 : decode cX7_rival 32 = .ok (.iconst 0, 1) := by decide +kernel
theorem dX7_rival_33 : decode cX7_rival 33 = .ok (.istore 4, 2) := by decide +kernel
theorem dX7_rival_35 : decode cX7_rival 35 = .ok (.iload 4, 2) := by decide +kernel
theorem dX7_rival_37 : decode cX7_rival 37 = .ok (.aload_n 0, 1) := by decide +kernel
theorem dX7_rival_38 : decode cX7_rival 38 = .ok (.getfield 93, 3) := by decide +kernel
theorem dX7_rival_41 : decode cX7_rival 41 = .ok (.if_icmp .ge 55, 3) := by decide +kernel
theorem dX7_rival_44 : decode cX7_rival 44 = .ok (.iload_n 3, 1) := by decide +kernel
theorem dX7_rival_45 : decode cX7_rival 45 = .ok (.iload 4, 2) := by decide +kernel
theorem dX7_rival_47 : decode cX7_rival 47 = .ok (.iload_n 1, 1) := by decide +kernel
theorem dX7_rival_48 : decode cX7_rival 48 = .ok (.if_icmp .eq 39, 3) := by decide +kernel
theorem dX7_rival_51 : decode cX7_rival 51 = .ok (.aload_n 0, 1) := by decide +kernel
theorem dX7_rival_52 : decode cX7_rival 52 = .ok (.getfield 127, 3) := by decide +kernel
theorem dX7_rival_55 : decode cX7_rival 55 = .ok (.iload 4, 2) := by decide +kernel
theorem dX7_rival_57 : decode cX7_rival 57 = .ok (.invokestatic 104, 3) := by decide +kernel
theorem dX7_rival_60 : decode cX7_rival 60 = .ok (.ifCond .eq 27, 3) := by decide +kernel
theorem dX7_rival_63 : decode cX7_rival 63 = .ok (.aload_n 0, 1) := by decide +kernel
theorem dX7_rival_64 : decode cX7_rival 64 = .ok (.getfield 22, 3) := by decide +kernel
theorem dX7_rival_67 : decode cX7_rival 67 = .ok (.iload 4, 2) := by decide +kernel
theorem dX7_rival_69 : decode cX7_rival 69 = .ok (.iaload, 1) := by decide +kernel
theorem dX7_rival_70 : decode cX7_rival 70 = .ok (.aload_n 0, 1) := by decide +kernel
theorem dX7_rival_71 : decode cX7_rival 71 = .ok (.getfield 22, 3) := by decide +kernel
theorem dX7_rival_74 : decode cX7_rival 74 = .ok (.iload_n 1, 1) := by decide +kernel
theorem dX7_rival_75 : decode cX7_rival 75 = .ok (.iaload, 1) := by decide +kernel
theorem dX7_rival_76 : decode cX7_rival 76 = .ok (.iand, 1) := by decide +kernel
theorem dX7_rival_77 : decode cX7_rival 77 = .ok (.ifCond .eq 10, 3) := by decide +kernel
theorem dX7_rival_80 : decode cX7_rival 80 = .ok (.iconst 1, 1) := by decide +kernel
theorem dX7_rival_81 : decode cX7_rival 81 = .ok (.iload 4, 2) := by decide +kernel
theorem dX7_rival_83 : decode cX7_rival 83 = .ok (.ishl, 1) := by decide +kernel
theorem dX7_rival_84 : decode cX7_rival 84 = .ok (.goto 4, 3) := by decide +kernel
theorem dX7_rival_87 : decode cX7_rival 87 = .ok (.iconst 0, 1) := by decide +kernel
theorem dX7_rival_88 : decode cX7_rival 88 = .ok (.ior, 1) := by decide +kernel
theorem dX7_rival_89 : decode cX7_rival 89 = .ok (.istore_n 3, 1) := by decide +kernel
theorem dX7_rival_90 : decode cX7_rival 90 = .ok (.iinc 4 1, 3) := by decide +kernel
theorem dX7_rival_93 : decode cX7_rival 93 = .ok (.goto (-58), 3) := by decide +kernel
theorem dX7_rival_96 : decode cX7_rival 96 = .ok (.iload_n 2, 1) := by decide +kernel
theorem dX7_rival_97 : decode cX7_rival 97 = .ok (.ifCond .ne 5, 3) := by decide +kernel
theorem dX7_rival_100 : decode cX7_rival 100 = .ok (.iload_n 3, 1) := by decide +kernel
theorem dX7_rival_101 : decode cX7_rival 101 = .ok (.ireturn, 1) := by decide +kernel
theorem dX7_rival_102 : decode cX7_rival 102 = .ok (.aload_n 0, 1) := by decide +kernel
theorem dX7_rival_103 : decode cX7_rival 103 = .ok (.invokevirtual 219, 3) := by decide +kernel
theorem dX7_rival_106 : decode cX7_rival 106 = .ok (.istore 4, 2) := by decide +kernel
theorem dX7_rival_108 : decode cX7_rival 108 = .ok (.iload_n 2, 1) := by decide +kernel
theorem dX7_rival_109 : decode cX7_rival 109 = .ok (.iconst 1, 1) := by decide +kernel
theorem dX7_rival_110 : decode cX7_rival 110 = .ok (.if_icmp .ne 8, 3) := by decide +kernel
theorem dX7_rival_113 : decode cX7_rival 113 = .ok (.iload_n 3, 1) := by decide +kernel
theorem dX7_rival_114 : decode cX7_rival 114 = .ok (.iload 4, 2) := by decide +kernel
theorem dX7_rival_116 : decode cX7_rival 116 = .ok (.iand, 1) := by decide +kernel
theorem dX7_rival_117 : decode cX7_rival 117 = .ok (.ireturn, 1) := by decide +kernel
theorem dX7_rival_118 : decode cX7_rival 118 = .ok (.iload 4, 2) := by decide +kernel
theorem dX7_rival_120 : decode cX7_rival 120 = .ok (.iload_n 1, 1) := by decide +kernel
theorem dX7_rival_121 : decode cX7_rival 121 = .ok (.invokestatic 104, 3) := by decide +kernel
theorem dX7_rival_124 : decode cX7_rival 124 = .ok (.ifCond .eq 7, 3) := by decide +kernel
theorem dX7_rival_127 : decode cX7_rival 127 = .ok (.iconst 0, 1) := by decide +kernel
theorem dX7_rival_128 : decode cX7_rival 128 = .ok (.goto 22, 3) := by decide +kernel
theorem dX7_rival_131 : decode cX7_rival 131 = .ok (.iconst 0, 1) := by decide +kernel
theorem dX7_rival_132 : decode cX7_rival 132 = .ok (.aload_n 0, 1) := by decide +kernel
theorem dX7_rival_133 : decode cX7_rival 133 = .ok (.iload_n 3, 1) := by decide +kernel
theorem dX7_rival_134 : decode cX7_rival 134 = .ok (.iload 4, 2) := by decide +kernel
theorem dX7_rival_136 : decode cX7_rival 136 = .ok (.iand, 1) := by decide +kernel
theorem dX7_rival_137 : decode cX7_rival 137 = .ok (.invokevirtual 228, 3) := by decide +kernel
theorem dX7_rival_140 : decode cX7_rival 140 = .ok (.aload_n 0, 1) := by decide +kernel
theorem dX7_rival_141 : decode cX7_rival 141 = .ok (.getfield 25, 3) := by decide +kernel
theorem dX7_rival_144 : decode cX7_rival 144 = .ok (.iload_n 1, 1) := by decide +kernel
theorem dX7_rival_145 : decode cX7_rival 145 = .ok (.iaload, 1) := by decide +kernel
theorem dX7_rival_146 : decode cX7_rival 146 = .ok (.isub, 1) := by decide +kernel
theorem dX7_rival_147 : decode cX7_rival 147 = .ok (.invokestatic 211, 3) := by decide +kernel
theorem dX7_rival_150 : decode cX7_rival 150 = .ok (.ireturn, 1) := by decide +kernel
theorem dX7_of_0 : decode cX7_of 0 = .ok (.iload_n 1, 1) := by decide +kernel
theorem dX7_of_1 : decode cX7_of 1 = .ok (.ifCond .ge 10, 3) := by decide +kernel
theorem dX7_of_4 : decode cX7_of 4 = .ok (.aload_n 0, 1) := by decide +kernel
theorem dX7_of_5 : decode cX7_of 5 = .ok (.bipush (-4), 2) := by decide +kernel
theorem dX7_of_7 : decode cX7_of 7 = .ok (.invokevirtual 136, 3) := by decide +kernel
theorem dX7_of_10 : decode cX7_of 10 = .ok (.ireturn, 1) := by decide +kernel
theorem dX7_of_11 : decode cX7_of 11 = .ok (.iload_n 1, 1) := by decide +kernel
theorem dX7_of_12 : decode cX7_of 12 = .ok (.iconst 1, 1) := by decide +kernel
theorem dX7_of_13 : decode cX7_of 13 = .ok (.aload_n 0, 1) := by decide +kernel
theorem dX7_of_14 : decode cX7_of 14 = .ok (.getfield 93, 3) := by decide +kernel
theorem dX7_of_17 : decode cX7_of 17 = .ok (.ishl, 1) := by decide +kernel
theorem dX7_of_18 : decode cX7_of 18 = .ok (.if_icmp .lt 10, 3) := by decide +kernel
theorem dX7_of_21 : decode cX7_of 21 = .ok (.aload_n 0, 1) := by decide +kernel
theorem dX7_of_22 : decode cX7_of 22 = .ok (.bipush (-6), 2) := by decide +kernel
theorem dX7_of_24 : decode cX7_of 24 = .ok (.invokevirtual 136, 3) := by decide +kernel
theorem dX7_of_27 : decode cX7_of 27 = .ok (.ireturn, 1) := by decide +kernel
theorem dX7_of_28 : decode cX7_of 28 = .ok (.iload_n 2, 1) := by decide +kernel
theorem dX7_of_29 : decode cX7_of 29 = .ok (.iconst 0, 1) := by decide +kernel
theorem dX7_of_30 : decode cX7_of 30 = .ok (.iconst 1, 1) := by decide +kernel
theorem dX7_of_31 : decode cX7_of 31 = .ok (.invokestatic 96, 3) := by decide +kernel
theorem dX7_of_34 : decode cX7_of 34 = .ok (.ifCond .ne 10, 3) := by decide +kernel
theorem dX7_of_37 : decode cX7_of 37 = .ok (.aload_n 0, 1) := by decide +kernel
theorem dX7_of_38 : decode cX7_of 38 = .ok (.bipush (-2), 2) := by decide +kernel
theorem dX7_of_40 : decode cX7_of 40 = .ok (.invokevirtual 136, 3) := by decide +kernel
theorem dX7_of_43 : decode cX7_of 43 = .ok (.ireturn, 1) := by decide +kernel
theorem dX7_of_44 : decode cX7_of 44 = .ok (.aload_n 0, 1) := by decide +kernel
theorem dX7_of_45 : decode cX7_of 45 = .ok (.iload_n 1, 1) := by decide +kernel
theorem dX7_of_46 : decode cX7_of 46 = .ok (.invokevirtual 133, 3) := by decide +kernel
theorem dX7_of_49 : decode cX7_of 49 = .ok (.istore_n 3, 1) := by decide +kernel
theorem dX7_of_50 : decode cX7_of 50 = .ok (.iload_n 2, 1) := by decide +kernel
theorem dX7_of_51 : decode cX7_of 51 = .ok (.ifCond .ne 7, 3) := by decide +kernel
theorem dX7_of_54 : decode cX7_of 54 = .ok (.iload_n 3, 1) := by decide +kernel
theorem dX7_of_55 : decode cX7_of 55 = .ok (.goto 9, 3) := by decide +kernel
theorem dX7_of_58 : decode cX7_of 58 = .ok (.aload_n 0, 1) := by decide +kernel
theorem dX7_of_59 : decode cX7_of 59 = .ok (.getfield 31, 3) := by decide +kernel
theorem dX7_of_62 : decode cX7_of 62 = .ok (.iload_n 3, 1) := by decide +kernel
theorem dX7_of_63 : decode cX7_of 63 = .ok (.iaload, 1) := by decide +kernel
theorem dX7_of_64 : decode cX7_of 64 = .ok (.ireturn, 1) := by decide +kernel
theorem dX7_together_0 : decode cX7_together 0 = .ok (.iconst 0, 1) := by decide +kernel
theorem dX7_together_1 : decode cX7_together 1 = .ok (.istore_n 2, 1) := by decide +kernel
theorem dX7_together_2 : decode cX7_together 2 = .ok (.iconst 0, 1) := by decide +kernel
theorem dX7_together_3 : decode cX7_together 3 = .ok (.istore_n 3, 1) := by decide +kernel
theorem dX7_together_4 : decode cX7_together 4 = .ok (.iload_n 3, 1) := by decide +kernel
theorem dX7_together_5 : decode cX7_together 5 = .ok (.aload_n 1, 1) := by decide +kernel
theorem dX7_together_6 : decode cX7_together 6 = .ok (.arraylength, 1) := by decide +kernel
theorem dX7_together_7 : decode cX7_together 7 = .ok (.if_icmp .ge 15, 3) := by decide +kernel
theorem dX7_together_10 : decode cX7_together 10 = .ok (.iload_n 2, 1) := by decide +kernel
theorem dX7_together_11 : decode cX7_together 11 = .ok (.aload_n 1, 1) := by decide +kernel
theorem dX7_together_12 : decode cX7_together 12 = .ok (.iload_n 3, 1) := by decide +kernel
theorem dX7_together_13 : decode cX7_together 13 = .ok (.iaload, 1) := by decide +kernel
theorem dX7_together_14 : decode cX7_together 14 = .ok (.iadd, 1) := by decide +kernel
theorem dX7_together_15 : decode cX7_together 15 = .ok (.istore_n 2, 1) := by decide +kernel
theorem dX7_together_16 : decode cX7_together 16 = .ok (.iinc 3 1, 3) := by decide +kernel
theorem dX7_together_19 : decode cX7_together 19 = .ok (.goto (-15), 3) := by decide +kernel
theorem dX7_together_22 : decode cX7_together 22 = .ok (.iload_n 2, 1) := by decide +kernel
theorem dX7_together_23 : decode cX7_together 23 = .ok (.ireturn, 1) := by decide +kernel
theorem dX7_findHarm_0 : decode cX7_findHarm 0 = .ok (.aload_n 0, 1) := by decide +kernel
theorem dX7_findHarm_1 : decode cX7_findHarm 1 = .ok (.invokevirtual 219, 3) := by decide +kernel
theorem dX7_findHarm_4 : decode cX7_findHarm 4 = .ok (.istore_n 1, 1) := by decide +kernel
theorem dX7_findHarm_5 : decode cX7_findHarm 5 = .ok (.aload_n 0, 1) := by decide +kernel
theorem dX7_findHarm_6 : decode cX7_findHarm 6 = .ok (.invokevirtual 108, 3) := by decide +kernel
theorem dX7_findHarm_9 : decode cX7_findHarm 9 = .ok (.iconst 0, 1) := by decide +kernel
theorem dX7_findHarm_10 : decode cX7_findHarm 10 = .ok (.istore_n 2, 1) := by decide +kernel
theorem dX7_findHarm_11 : decode cX7_findHarm 11 = .ok (.iload_n 2, 1) := by decide +kernel
theorem dX7_findHarm_12 : decode cX7_findHarm 12 = .ok (.iconst 5, 1) := by decide +kernel
theorem dX7_findHarm_13 : decode cX7_findHarm 13 = .ok (.if_icmp .ge 56, 3) := by decide +kernel
theorem dX7_findHarm_16 : decode cX7_findHarm 16 = .ok (.aload_n 0, 1) := by decide +kernel
theorem dX7_findHarm_17 : decode cX7_findHarm 17 = .ok (.getfield 80, 3) := by decide +kernel
theorem dX7_findHarm_20 : decode cX7_findHarm 20 = .ok (.iload_n 2, 1) := by decide +kernel
theorem dX7_findHarm_21 : decode cX7_findHarm 21 = .ok (.aload_n 0, 1) := by decide +kernel
theorem dX7_findHarm_22 : decode cX7_findHarm 22 = .ok (.iload_n 1, 1) := by decide +kernel
theorem dX7_findHarm_23 : decode cX7_findHarm 23 = .ok (.aload_n 0, 1) := by decide +kernel
theorem dX7_findHarm_24 : decode cX7_findHarm 24 = .ok (.getfield 37, 3) := by decide +kernel
theorem dX7_findHarm_27 : decode cX7_findHarm 27 = .ok (.iload_n 2, 1) := by decide +kernel
theorem dX7_findHarm_28 : decode cX7_findHarm 28 = .ok (.iaload, 1) := by decide +kernel
theorem dX7_findHarm_29 : decode cX7_findHarm 29 = .ok (.iand, 1) := by decide +kernel
theorem dX7_findHarm_30 : decode cX7_findHarm 30 = .ok (.invokevirtual 228, 3) := by decide +kernel
theorem dX7_findHarm_33 : decode cX7_findHarm 33 = .ok (.iastore, 1) := by decide +kernel
theorem dX7_findHarm_34 : decode cX7_findHarm 34 = .ok (.aload_n 0, 1) := by decide +kernel
theorem dX7_findHarm_35 : decode cX7_findHarm 35 = .ok (.getfield 83, 3) := by decide +kernel
theorem dX7_findHarm_38 : decode cX7_findHarm 38 = .ok (.iload_n 2, 1) := by decide +kernel
theorem dX7_findHarm_39 : decode cX7_findHarm 39 = .ok (.aload_n 0, 1) := by decide +kernel
theorem dX7_findHarm_40 : decode cX7_findHarm 40 = .ok (.getfield 80, 3) := by decide +kernel
theorem dX7_findHarm_43 : decode cX7_findHarm 43 = .ok (.iload_n 2, 1) := by decide +kernel
theorem dX7_findHarm_44 : decode cX7_findHarm 44 = .ok (.iaload, 1) := by decide +kernel
theorem dX7_findHarm_45 : decode cX7_findHarm 45 = .ok (.ifCond .ne 7, 3) := by decide +kernel
theorem dX7_findHarm_48 : decode cX7_findHarm 48 = .ok (.iconst 0, 1) := by decide +kernel
theorem dX7_findHarm_49 : decode cX7_findHarm 49 = .ok (.goto 13, 3) := by decide +kernel
theorem dX7_findHarm_52 : decode cX7_findHarm 52 = .ok (.aload_n 0, 1) := by decide +kernel
theorem dX7_findHarm_53 : decode cX7_findHarm 53 = .ok (.aload_n 0, 1) := by decide +kernel
theorem dX7_findHarm_54 : decode cX7_findHarm 54 = .ok (.getfield 37, 3) := by decide +kernel
theorem dX7_findHarm_57 : decode cX7_findHarm 57 = .ok (.iload_n 2, 1) := by decide +kernel
theorem dX7_findHarm_58 : decode cX7_findHarm 58 = .ok (.iaload, 1) := by decide +kernel
theorem dX7_findHarm_59 : decode cX7_findHarm 59 = .ok (.invokevirtual 234, 3) := by decide +kernel
theorem dX7_findHarm_62 : decode cX7_findHarm 62 = .ok (.iastore, 1) := by decide +kernel
theorem dX7_findHarm_63 : decode cX7_findHarm 63 = .ok (.iinc 2 1, 3) := by decide +kernel
theorem dX7_findHarm_66 : decode cX7_findHarm 66 = .ok (.goto (-55), 3) := by decide +kernel
theorem dX7_findHarm_69 : decode cX7_findHarm 69 = .ok (.return_, 1) := by decide +kernel
theorem dX7_ofGroup_0 : decode cX7_ofGroup 0 = .ok (.aload_n 0, 1) := by decide +kernel
theorem dX7_ofGroup_1 : decode cX7_ofGroup 1 = .ok (.invokevirtual 108, 3) := by decide +kernel
theorem dX7_ofGroup_4 : decode cX7_ofGroup 4 = .ok (.iconst 0, 1) := by decide +kernel
theorem dX7_ofGroup_5 : decode cX7_ofGroup 5 = .ok (.istore_n 2, 1) := by decide +kernel
theorem dX7_ofGroup_6 : decode cX7_ofGroup 6 = .ok (.iconst 0, 1) := by decide +kernel
theorem dX7_ofGroup_7 : decode cX7_ofGroup 7 = .ok (.istore_n 3, 1) := by decide +kernel
theorem dX7_ofGroup_8 : decode cX7_ofGroup 8 = .ok (.iload_n 3, 1) := by decide +kernel
theorem dX7_ofGroup_9 : decode cX7_ofGroup 9 = .ok (.iconst 5, 1) := by decide +kernel
theorem dX7_ofGroup_10 : decode cX7_ofGroup 10 = .ok (.if_icmp .ge 30, 3) := by decide +kernel
theorem dX7_ofGroup_13 : decode cX7_ofGroup 13 = .ok (.iload_n 2, 1) := by decide +kernel
theorem dX7_ofGroup_14 : decode cX7_ofGroup 14 = .ok (.iload_n 1, 1) := by decide +kernel
theorem dX7_ofGroup_15 : decode cX7_ofGroup 15 = .ok (.iload_n 3, 1) := by decide +kernel
theorem dX7_ofGroup_16 : decode cX7_ofGroup 16 = .ok (.invokestatic 104, 3) := by decide +kernel
theorem dX7_ofGroup_19 : decode cX7_ofGroup 19 = .ok (.ifCond .eq 12, 3) := by decide +kernel
theorem dX7_ofGroup_22 : decode cX7_ofGroup 22 = .ok (.aload_n 0, 1) := by decide +kernel
theorem dX7_ofGroup_23 : decode cX7_ofGroup 23 = .ok (.getfield 37, 3) := by decide +kernel
theorem dX7_ofGroup_26 : decode cX7_ofGroup 26 = .ok (.iload_n 3, 1) := by decide +kernel
theorem dX7_ofGroup_27 : decode cX7_ofGroup 27 = .ok (.iaload, 1) := by decide +kernel
theorem dX7_ofGroup_28 : decode cX7_ofGroup 28 = .ok (.goto 4, 3) := by decide +kernel
theorem dX7_ofGroup_31 : decode cX7_ofGroup 31 = .ok (.iconst 0, 1) := by decide +kernel
theorem dX7_ofGroup_32 : decode cX7_ofGroup 32 = .ok (.ior, 1) := by decide +kernel
theorem dX7_ofGroup_33 : decode cX7_ofGroup 33 = .ok (.istore_n 2, 1) := by decide +kernel
theorem dX7_ofGroup_34 : decode cX7_ofGroup 34 = .ok (.iinc 3 1, 3) := by decide +kernel
theorem dX7_ofGroup_37 : decode cX7_ofGroup 37 = .ok (.goto (-29), 3) := by decide +kernel
theorem dX7_ofGroup_40 : decode cX7_ofGroup 40 = .ok (.iload_n 2, 1) := by decide +kernel
theorem dX7_ofGroup_41 : decode cX7_ofGroup 41 = .ok (.ireturn, 1) := by decide +kernel
theorem dX7_blocksBy_0 : decode cX7_blocksBy 0 = .ok (.aload_n 0, 1) := by decide +kernel
theorem dX7_blocksBy_1 : decode cX7_blocksBy 1 = .ok (.invokevirtual 219, 3) := by decide +kernel
theorem dX7_blocksBy_4 : decode cX7_blocksBy 4 = .ok (.istore_n 2, 1) := by decide +kernel
theorem dX7_blocksBy_5 : decode cX7_blocksBy 5 = .ok (.aload_n 0, 1) := by decide +kernel
theorem dX7_blocksBy_6 : decode cX7_blocksBy 6 = .ok (.aload_n 0, 1) := by decide +kernel
theorem dX7_blocksBy_7 : decode cX7_blocksBy 7 = .ok (.iload_n 1, 1) := by decide +kernel
theorem dX7_blocksBy_8 : decode cX7_blocksBy 8 = .ok (.invokevirtual 246, 3) := by decide +kernel
theorem dX7_blocksBy_11 : decode cX7_blocksBy 11 = .ok (.invokevirtual 225, 3) := by decide +kernel
theorem dX7_blocksBy_14 : decode cX7_blocksBy 14 = .ok (.aload_n 0, 1) := by decide +kernel
theorem dX7_blocksBy_15 : decode cX7_blocksBy 15 = .ok (.aload_n 0, 1) := by decide +kernel
theorem dX7_blocksBy_16 : decode cX7_blocksBy 16 = .ok (.getfield 83, 3) := by decide +kernel
theorem dX7_blocksBy_19 : decode cX7_blocksBy 19 = .ok (.invokevirtual 249, 3) := by decide +kernel
theorem dX7_blocksBy_22 : decode cX7_blocksBy 22 = .ok (.isub, 1) := by decide +kernel
theorem dX7_blocksBy_23 : decode cX7_blocksBy 23 = .ok (.istore_n 3, 1) := by decide +kernel
theorem dX7_blocksBy_24 : decode cX7_blocksBy 24 = .ok (.iconst 0, 1) := by decide +kernel
theorem dX7_blocksBy_25 : decode cX7_blocksBy 25 = .ok (.istore 4, 2) := by decide +kernel
theorem dX7_blocksBy_27 : decode cX7_blocksBy 27 = .ok (.iload 4, 2) := by decide +kernel
theorem dX7_blocksBy_29 : decode cX7_blocksBy 29 = .ok (.iconst 5, 1) := by decide +kernel
theorem dX7_blocksBy_30 : decode cX7_blocksBy 30 = .ok (.if_icmp .ge 40, 3) := by decide +kernel
theorem dX7_blocksBy_33 : decode cX7_blocksBy 33 = .ok (.iload_n 3, 1) := by decide +kernel
theorem dX7_blocksBy_34 : decode cX7_blocksBy 34 = .ok (.iload_n 1, 1) := by decide +kernel
theorem dX7_blocksBy_35 : decode cX7_blocksBy 35 = .ok (.iload 4, 2) := by decide +kernel
theorem dX7_blocksBy_37 : decode cX7_blocksBy 37 = .ok (.invokestatic 104, 3) := by decide +kernel
theorem dX7_blocksBy_40 : decode cX7_blocksBy 40 = .ok (.ifCond .eq 21, 3) := by decide +kernel
theorem dX7_blocksBy_43 : decode cX7_blocksBy 43 = .ok (.aload_n 0, 1) := by decide +kernel
theorem dX7_blocksBy_44 : decode cX7_blocksBy 44 = .ok (.getfield 80, 3) := by decide +kernel
theorem dX7_blocksBy_47 : decode cX7_blocksBy 47 = .ok (.iload 4, 2) := by decide +kernel
theorem dX7_blocksBy_49 : decode cX7_blocksBy 49 = .ok (.iaload, 1) := by decide +kernel
theorem dX7_blocksBy_50 : decode cX7_blocksBy 50 = .ok (.aload_n 0, 1) := by decide +kernel
theorem dX7_blocksBy_51 : decode cX7_blocksBy 51 = .ok (.getfield 83, 3) := by decide +kernel
theorem dX7_blocksBy_54 : decode cX7_blocksBy 54 = .ok (.iload 4, 2) := by decide +kernel
theorem dX7_blocksBy_56 : decode cX7_blocksBy 56 = .ok (.iaload, 1) := by decide +kernel
theorem dX7_blocksBy_57 : decode cX7_blocksBy 57 = .ok (.isub, 1) := by decide +kernel
theorem dX7_blocksBy_58 : decode cX7_blocksBy 58 = .ok (.goto 4, 3) := by decide +kernel
theorem dX7_blocksBy_61 : decode cX7_blocksBy 61 = .ok (.iconst 0, 1) := by decide +kernel
theorem dX7_blocksBy_62 : decode cX7_blocksBy 62 = .ok (.isub, 1) := by decide +kernel
theorem dX7_blocksBy_63 : decode cX7_blocksBy 63 = .ok (.istore_n 3, 1) := by decide +kernel
theorem dX7_blocksBy_64 : decode cX7_blocksBy 64 = .ok (.iinc 4 1, 3) := by decide +kernel
theorem dX7_blocksBy_67 : decode cX7_blocksBy 67 = .ok (.goto (-40), 3) := by decide +kernel
theorem dX7_blocksBy_70 : decode cX7_blocksBy 70 = .ok (.iconst 0, 1) := by decide +kernel
theorem dX7_blocksBy_71 : decode cX7_blocksBy 71 = .ok (.istore 4, 2) := by decide +kernel
theorem dX7_blocksBy_73 : decode cX7_blocksBy 73 = .ok (.iload 4, 2) := by decide +kernel
theorem dX7_blocksBy_75 : decode cX7_blocksBy 75 = .ok (.bipush 6, 2) := by decide +kernel
theorem dX7_blocksBy_77 : decode cX7_blocksBy 77 = .ok (.if_icmp .ge 37, 3) := by decide +kernel
theorem dX7_blocksBy_80 : decode cX7_blocksBy 80 = .ok (.iload_n 3, 1) := by decide +kernel
theorem dX7_blocksBy_81 : decode cX7_blocksBy 81 = .ok (.aload_n 0, 1) := by decide +kernel
theorem dX7_blocksBy_82 : decode cX7_blocksBy 82 = .ok (.getfield 34, 3) := by decide +kernel
theorem dX7_blocksBy_85 : decode cX7_blocksBy 85 = .ok (.iload_n 2, 1) := by decide +kernel
theorem dX7_blocksBy_86 : decode cX7_blocksBy 86 = .ok (.iaload, 1) := by decide +kernel
theorem dX7_blocksBy_87 : decode cX7_blocksBy 87 = .ok (.iload 4, 2) := by decide +kernel
theorem dX7_blocksBy_89 : decode cX7_blocksBy 89 = .ok (.invokestatic 104, 3) := by decide +kernel
theorem dX7_blocksBy_92 : decode cX7_blocksBy 92 = .ok (.ifCond .eq 7, 3) := by decide +kernel
theorem dX7_blocksBy_95 : decode cX7_blocksBy 95 = .ok (.iconst 0, 1) := by decide +kernel
theorem dX7_blocksBy_96 : decode cX7_blocksBy 96 = .ok (.goto 10, 3) := by decide +kernel
theorem dX7_blocksBy_99 : decode cX7_blocksBy 99 = .ok (.aload_n 0, 1) := by decide +kernel
theorem dX7_blocksBy_100 : decode cX7_blocksBy 100 = .ok (.getfield 9, 3) := by decide +kernel
theorem dX7_blocksBy_103 : decode cX7_blocksBy 103 = .ok (.iload 4, 2) := by decide +kernel
theorem dX7_blocksBy_105 : decode cX7_blocksBy 105 = .ok (.iaload, 1) := by decide +kernel
theorem dX7_blocksBy_106 : decode cX7_blocksBy 106 = .ok (.isub, 1) := by decide +kernel
theorem dX7_blocksBy_107 : decode cX7_blocksBy 107 = .ok (.istore_n 3, 1) := by decide +kernel
theorem dX7_blocksBy_108 : decode cX7_blocksBy 108 = .ok (.iinc 4 1, 3) := by decide +kernel
theorem dX7_blocksBy_111 : decode cX7_blocksBy 111 = .ok (.goto (-38), 3) := by decide +kernel
theorem dX7_blocksBy_114 : decode cX7_blocksBy 114 = .ok (.iload_n 3, 1) := by decide +kernel
theorem dX7_blocksBy_115 : decode cX7_blocksBy 115 = .ok (.ireturn, 1) := by decide +kernel
theorem dX7_blocker_0 : decode cX7_blocker 0 = .ok (.bipush (-9), 2) := by decide +kernel
theorem dX7_blocker_2 : decode cX7_blocker 2 = .ok (.istore_n 1, 1) := by decide +kernel
theorem dX7_blocker_3 : decode cX7_blocker 3 = .ok (.iconst 0, 1) := by decide +kernel
theorem dX7_blocker_4 : decode cX7_blocker 4 = .ok (.istore_n 2, 1) := by decide +kernel
theorem dX7_blocker_5 : decode cX7_blocker 5 = .ok (.iconst 0, 1) := by decide +kernel
theorem dX7_blocker_6 : decode cX7_blocker 6 = .ok (.istore_n 3, 1) := by decide +kernel
theorem dX7_blocker_7 : decode cX7_blocker 7 = .ok (.iload_n 3, 1) := by decide +kernel
theorem dX7_blocker_8 : decode cX7_blocker 8 = .ok (.bipush 32, 2) := by decide +kernel
theorem dX7_blocker_10 : decode cX7_blocker 10 = .ok (.if_icmp .ge 30, 3) := by decide +kernel
theorem dX7_blocker_13 : decode cX7_blocker 13 = .ok (.aload_n 0, 1) := by decide +kernel
theorem dX7_blocker_14 : decode cX7_blocker 14 = .ok (.iload_n 3, 1) := by decide +kernel
theorem dX7_blocker_15 : decode cX7_blocker 15 = .ok (.invokevirtual 253, 3) := by decide +kernel
theorem dX7_blocker_18 : decode cX7_blocker 18 = .ok (.istore 4, 2) := by decide +kernel
theorem dX7_blocker_20 : decode cX7_blocker 20 = .ok (.iload 4, 2) := by decide +kernel
theorem dX7_blocker_22 : decode cX7_blocker 22 = .ok (.iload_n 2, 1) := by decide +kernel
theorem dX7_blocker_23 : decode cX7_blocker 23 = .ok (.if_icmp .gt 6, 3) := by decide +kernel
theorem dX7_blocker_26 : decode cX7_blocker 26 = .ok (.goto 8, 3) := by decide +kernel
theorem dX7_blocker_29 : decode cX7_blocker 29 = .ok (.iload 4, 2) := by decide +kernel
theorem dX7_blocker_31 : decode cX7_blocker 31 = .ok (.istore_n 2, 1) := by decide +kernel
theorem dX7_blocker_32 : decode cX7_blocker 32 = .ok (.iload_n 3, 1) := by decide +kernel
theorem dX7_blocker_33 : decode cX7_blocker 33 = .ok (.istore_n 1, 1) := by decide +kernel
theorem dX7_blocker_34 : decode cX7_blocker 34 = .ok (.iinc 3 1, 3) := by decide +kernel
theorem dX7_blocker_37 : decode cX7_blocker 37 = .ok (.goto (-30), 3) := by decide +kernel
theorem dX7_blocker_40 : decode cX7_blocker 40 = .ok (.iload_n 1, 1) := by decide +kernel
theorem dX7_blocker_41 : decode cX7_blocker 41 = .ok (.ireturn, 1) := by decide +kernel
theorem dX7_findLifted_0 : decode cX7_findLifted 0 = .ok (.aload_n 0, 1) := by decide +kernel
theorem dX7_findLifted_1 : decode cX7_findLifted 1 = .ok (.invokevirtual 256, 3) := by decide +kernel
theorem dX7_findLifted_4 : decode cX7_findLifted 4 = .ok (.aload_n 0, 1) := by decide +kernel
theorem dX7_findLifted_5 : decode cX7_findLifted 5 = .ok (.iconst 0, 1) := by decide +kernel
theorem dX7_findLifted_6 : decode cX7_findLifted 6 = .ok (.putfield 259, 3) := by decide +kernel
theorem dX7_findLifted_9 : decode cX7_findLifted 9 = .ok (.aload_n 0, 1) := by decide +kernel
theorem dX7_findLifted_10 : decode cX7_findLifted 10 = .ok (.invokevirtual 262, 3) := by decide +kernel
theorem dX7_findLifted_13 : decode cX7_findLifted 13 = .ok (.istore_n 1, 1) := by decide +kernel
theorem dX7_findLifted_14 : decode cX7_findLifted 14 = .ok (.iload_n 1, 1) := by decide +kernel
theorem dX7_findLifted_15 : decode cX7_findLifted 15 = .ok (.ifCond .lt 86, 3) := by decide +kernel
theorem dX7_findLifted_18 : decode cX7_findLifted 18 = .ok (.aload_n 0, 1) := by decide +kernel
theorem dX7_findLifted_19 : decode cX7_findLifted 19 = .ok (.iload_n 1, 1) := by decide +kernel
theorem dX7_findLifted_20 : decode cX7_findLifted 20 = .ok (.invokevirtual 253, 3) := by decide +kernel
theorem dX7_findLifted_23 : decode cX7_findLifted 23 = .ok (.istore_n 2, 1) := by decide +kernel
theorem dX7_findLifted_24 : decode cX7_findLifted 24 = .ok (.iconst 0, 1) := by decide +kernel
theorem dX7_findLifted_25 : decode cX7_findLifted 25 = .ok (.istore_n 3, 1) := by decide +kernel
theorem dX7_findLifted_26 : decode cX7_findLifted 26 = .ok (.iload_n 3, 1) := by decide +kernel
theorem dX7_findLifted_27 : decode cX7_findLifted 27 = .ok (.iconst 5, 1) := by decide +kernel
theorem dX7_findLifted_28 : decode cX7_findLifted 28 = .ok (.if_icmp .ge 55, 3) := by decide +kernel
theorem dX7_findLifted_31 : decode cX7_findLifted 31 = .ok (.iload_n 1, 1) := by decide +kernel
theorem dX7_findLifted_32 : decode cX7_findLifted 32 = .ok (.iload_n 3, 1) := by decide +kernel
theorem dX7_findLifted_33 : decode cX7_findLifted 33 = .ok (.invokestatic 104, 3) := by decide +kernel
theorem dX7_findLifted_36 : decode cX7_findLifted 36 = .ok (.ifCond .eq 6, 3) := by decide +kernel
theorem dX7_findLifted_39 : decode cX7_findLifted 39 = .ok (.goto 38, 3) := by decide +kernel
theorem dX7_findLifted_42 : decode cX7_findLifted 42 = .ok (.iload_n 2, 1) := by decide +kernel
theorem dX7_findLifted_43 : decode cX7_findLifted 43 = .ok (.aload_n 0, 1) := by decide +kernel
theorem dX7_findLifted_44 : decode cX7_findLifted 44 = .ok (.getfield 80, 3) := by decide +kernel
theorem dX7_findLifted_47 : decode cX7_findLifted 47 = .ok (.iload_n 3, 1) := by decide +kernel
theorem dX7_findLifted_48 : decode cX7_findLifted 48 = .ok (.iaload, 1) := by decide +kernel
theorem dX7_findLifted_49 : decode cX7_findLifted 49 = .ok (.aload_n 0, 1) := by decide +kernel
theorem dX7_findLifted_50 : decode cX7_findLifted 50 = .ok (.getfield 83, 3) := by decide +kernel
theorem dX7_findLifted_53 : decode cX7_findLifted 53 = .ok (.iload_n 3, 1) := by decide +kernel
theorem dX7_findLifted_54 : decode cX7_findLifted 54 = .ok (.iaload, 1) := by decide +kernel
theorem dX7_findLifted_55 : decode cX7_findLifted 55 = .ok (.isub, 1) := by decide +kernel
theorem dX7_findLifted_56 : decode cX7_findLifted 56 = .ok (.invokestatic 265, 3) := by decide +kernel
theorem dX7_findLifted_59 : decode cX7_findLifted 59 = .ok (.istore 4, 2) := by decide +kernel
theorem dX7_findLifted_61 : decode cX7_findLifted 61 = .ok (.aload_n 0, 1) := by decide +kernel
theorem dX7_findLifted_62 : decode cX7_findLifted 62 = .ok (.getfield 83, 3) := by decide +kernel
theorem dX7_findLifted_65 : decode cX7_findLifted 65 = .ok (.iload_n 3, 1) := by decide +kernel
theorem dX7_findLifted_66 : decode cX7_findLifted 66 = .ok (.dup2, 1) := by decide +kernel
theorem dX7_findLifted_67 : decode cX7_findLifted 67 = .ok (.iaload, 1) := by decide +kernel
theorem dX7_findLifted_68 : decode cX7_findLifted 68 = .ok (.iload 4, 2) := by decide +kernel
theorem dX7_findLifted_70 : decode cX7_findLifted 70 = .ok (.iadd, 1) := by decide +kernel
theorem dX7_findLifted_71 : decode cX7_findLifted 71 = .ok (.iastore, 1) := by decide +kernel
theorem dX7_findLifted_72 : decode cX7_findLifted 72 = .ok (.iload_n 2, 1) := by decide +kernel
theorem dX7_findLifted_73 : decode cX7_findLifted 73 = .ok (.iload 4, 2) := by decide +kernel
theorem dX7_findLifted_75 : decode cX7_findLifted 75 = .ok (.isub, 1) := by decide +kernel
theorem dX7_findLifted_76 : decode cX7_findLifted 76 = .ok (.istore_n 2, 1) := by decide +kernel
theorem dX7_findLifted_77 : decode cX7_findLifted 77 = .ok (.iinc 3 1, 3) := by decide +kernel
theorem dX7_findLifted_80 : decode cX7_findLifted 80 = .ok (.goto (-54), 3) := by decide +kernel
theorem dX7_findLifted_83 : decode cX7_findLifted 83 = .ok (.aload_n 0, 1) := by decide +kernel
theorem dX7_findLifted_84 : decode cX7_findLifted 84 = .ok (.dup, 1) := by decide +kernel
theorem dX7_findLifted_85 : decode cX7_findLifted 85 = .ok (.getfield 259, 3) := by decide +kernel
theorem dX7_findLifted_88 : decode cX7_findLifted 88 = .ok (.iconst 1, 1) := by decide +kernel
theorem dX7_findLifted_89 : decode cX7_findLifted 89 = .ok (.iadd, 1) := by decide +kernel
theorem dX7_findLifted_90 : decode cX7_findLifted 90 = .ok (.putfield 259, 3) := by decide +kernel
theorem dX7_findLifted_93 : decode cX7_findLifted 93 = .ok (.aload_n 0, 1) := by decide +kernel
theorem dX7_findLifted_94 : decode cX7_findLifted 94 = .ok (.invokevirtual 262, 3) := by decide +kernel
theorem dX7_findLifted_97 : decode cX7_findLifted 97 = .ok (.istore_n 1, 1) := by decide +kernel
theorem dX7_findLifted_98 : decode cX7_findLifted 98 = .ok (.goto (-84), 3) := by decide +kernel
theorem dX7_findLifted_101 : decode cX7_findLifted 101 = .ok (.return_, 1) := by decide +kernel
theorem dX7_finds_0 : decode cX7_finds 0 = .ok (.iload_n 1, 1) := by decide +kernel
theorem dX7_finds_1 : decode cX7_finds 1 = .ok (.iconst 2, 1) := by decide +kernel
theorem dX7_finds_2 : decode cX7_finds 2 = .ok (.if_icmp .ne 8, 3) := by decide +kernel
theorem dX7_finds_5 : decode cX7_finds 5 = .ok (.aload_n 0, 1) := by decide +kernel
theorem dX7_finds_6 : decode cX7_finds 6 = .ok (.invokevirtual 268, 3) := by decide +kernel
theorem dX7_finds_9 : decode cX7_finds 9 = .ok (.return_, 1) := by decide +kernel
theorem dX7_finds_10 : decode cX7_finds 10 = .ok (.aload_n 0, 1) := by decide +kernel
theorem dX7_finds_11 : decode cX7_finds 11 = .ok (.invokevirtual 256, 3) := by decide +kernel
theorem dX7_finds_14 : decode cX7_finds 14 = .ok (.iconst 0, 1) := by decide +kernel
theorem dX7_finds_15 : decode cX7_finds 15 = .ok (.istore_n 2, 1) := by decide +kernel
theorem dX7_finds_16 : decode cX7_finds 16 = .ok (.iload_n 2, 1) := by decide +kernel
theorem dX7_finds_17 : decode cX7_finds 17 = .ok (.iconst 5, 1) := by decide +kernel
theorem dX7_finds_18 : decode cX7_finds 18 = .ok (.if_icmp .ge 25, 3) := by decide +kernel
theorem dX7_finds_21 : decode cX7_finds 21 = .ok (.iload_n 1, 1) := by decide +kernel
theorem dX7_finds_22 : decode cX7_finds 22 = .ok (.ifCond .ne 21, 3) := by decide +kernel
theorem dX7_finds_25 : decode cX7_finds 25 = .ok (.aload_n 0, 1) := by decide +kernel
theorem dX7_finds_26 : decode cX7_finds 26 = .ok (.getfield 83, 3) := by decide +kernel
theorem dX7_finds_29 : decode cX7_finds 29 = .ok (.iload_n 2, 1) := by decide +kernel
theorem dX7_finds_30 : decode cX7_finds 30 = .ok (.aload_n 0, 1) := by decide +kernel
theorem dX7_finds_31 : decode cX7_finds 31 = .ok (.getfield 80, 3) := by decide +kernel
theorem dX7_finds_34 : decode cX7_finds 34 = .ok (.iload_n 2, 1) := by decide +kernel
theorem dX7_finds_35 : decode cX7_finds 35 = .ok (.iaload, 1) := by decide +kernel
theorem dX7_finds_36 : decode cX7_finds 36 = .ok (.iastore, 1) := by decide +kernel
theorem dX7_finds_37 : decode cX7_finds 37 = .ok (.iinc 2 1, 3) := by decide +kernel
theorem dX7_finds_40 : decode cX7_finds 40 = .ok (.goto (-24), 3) := by decide +kernel
theorem dX7_finds_43 : decode cX7_finds 43 = .ok (.return_, 1) := by decide +kernel
theorem dX7_pays_0 : decode cX7_pays 0 = .ok (.iload_n 1, 1) := by decide +kernel
theorem dX7_pays_1 : decode cX7_pays 1 = .ok (.iconst 0, 1) := by decide +kernel
theorem dX7_pays_2 : decode cX7_pays 2 = .ok (.iconst 4, 1) := by decide +kernel
theorem dX7_pays_3 : decode cX7_pays 3 = .ok (.invokestatic 96, 3) := by decide +kernel
theorem dX7_pays_6 : decode cX7_pays 6 = .ok (.ifCond .ne 9, 3) := by decide +kernel
theorem dX7_pays_9 : decode cX7_pays 9 = .ok (.aload_n 0, 1) := by decide +kernel
theorem dX7_pays_10 : decode cX7_pays 10 = .ok (.iconst (-1), 1) := by decide +kernel
theorem dX7_pays_11 : decode cX7_pays 11 = .ok (.invokevirtual 136, 3) := by decide +kernel
theorem dX7_pays_14 : decode cX7_pays 14 = .ok (.ireturn, 1) := by decide +kernel
theorem dX7_pays_15 : decode cX7_pays 15 = .ok (.iload_n 2, 1) := by decide +kernel
theorem dX7_pays_16 : decode cX7_pays 16 = .ok (.iconst 0, 1) := by decide +kernel
theorem dX7_pays_17 : decode cX7_pays 17 = .ok (.iconst 2, 1) := by decide +kernel
theorem dX7_pays_18 : decode cX7_pays 18 = .ok (.invokestatic 96, 3) := by decide +kernel
theorem dX7_pays_21 : decode cX7_pays 21 = .ok (.ifCond .ne 10, 3) := by decide +kernel
theorem dX7_pays_24 : decode cX7_pays 24 = .ok (.aload_n 0, 1) := by decide +kernel
theorem dX7_pays_25 : decode cX7_pays 25 = .ok (.bipush (-2), 2) := by decide +kernel
theorem dX7_pays_27 : decode cX7_pays 27 = .ok (.invokevirtual 136, 3) := by decide +kernel
theorem dX7_pays_30 : decode cX7_pays 30 = .ok (.ireturn, 1) := by decide +kernel
theorem dX7_pays_31 : decode cX7_pays 31 = .ok (.aload_n 0, 1) := by decide +kernel
theorem dX7_pays_32 : decode cX7_pays 32 = .ok (.iload_n 2, 1) := by decide +kernel
theorem dX7_pays_33 : decode cX7_pays 33 = .ok (.invokevirtual 271, 3) := by decide +kernel
theorem dX7_pays_36 : decode cX7_pays 36 = .ok (.aload_n 0, 1) := by decide +kernel
theorem dX7_pays_37 : decode cX7_pays 37 = .ok (.getfield 83, 3) := by decide +kernel
theorem dX7_pays_40 : decode cX7_pays 40 = .ok (.iload_n 1, 1) := by decide +kernel
theorem dX7_pays_41 : decode cX7_pays 41 = .ok (.iaload, 1) := by decide +kernel
theorem dX7_pays_42 : decode cX7_pays 42 = .ok (.ireturn, 1) := by decide +kernel
theorem dX7_blocks_0 : decode cX7_blocks 0 = .ok (.iload_n 1, 1) := by decide +kernel
theorem dX7_blocks_1 : decode cX7_blocks 1 = .ok (.iconst 0, 1) := by decide +kernel
theorem dX7_blocks_2 : decode cX7_blocks 2 = .ok (.iconst 2, 1) := by decide +kernel
theorem dX7_blocks_3 : decode cX7_blocks 3 = .ok (.invokestatic 96, 3) := by decide +kernel
theorem dX7_blocks_6 : decode cX7_blocks 6 = .ok (.ifCond .eq 12, 3) := by decide +kernel
theorem dX7_blocks_9 : decode cX7_blocks 9 = .ok (.iload_n 2, 1) := by decide +kernel
theorem dX7_blocks_10 : decode cX7_blocks 10 = .ok (.iconst 0, 1) := by decide +kernel
theorem dX7_blocks_11 : decode cX7_blocks 11 = .ok (.iconst 1, 1) := by decide +kernel
theorem dX7_blocks_12 : decode cX7_blocks 12 = .ok (.invokestatic 96, 3) := by decide +kernel
theorem dX7_blocks_15 : decode cX7_blocks 15 = .ok (.ifCond .ne 10, 3) := by decide +kernel
theorem dX7_blocks_18 : decode cX7_blocks 18 = .ok (.aload_n 0, 1) := by decide +kernel
theorem dX7_blocks_19 : decode cX7_blocks 19 = .ok (.bipush (-2), 2) := by decide +kernel
theorem dX7_blocks_21 : decode cX7_blocks 21 = .ok (.invokevirtual 136, 3) := by decide +kernel
theorem dX7_blocks_24 : decode cX7_blocks 24 = .ok (.ireturn, 1) := by decide +kernel
theorem dX7_blocks_25 : decode cX7_blocks 25 = .ok (.aload_n 0, 1) := by decide +kernel
theorem dX7_blocks_26 : decode cX7_blocks 26 = .ok (.iload_n 1, 1) := by decide +kernel
theorem dX7_blocks_27 : decode cX7_blocks 27 = .ok (.invokevirtual 271, 3) := by decide +kernel
theorem dX7_blocks_30 : decode cX7_blocks 30 = .ok (.aload_n 0, 1) := by decide +kernel
theorem dX7_blocks_31 : decode cX7_blocks 31 = .ok (.invokevirtual 262, 3) := by decide +kernel
theorem dX7_blocks_34 : decode cX7_blocks 34 = .ok (.istore_n 3, 1) := by decide +kernel
theorem dX7_blocks_35 : decode cX7_blocks 35 = .ok (.iload_n 2, 1) := by decide +kernel
theorem dX7_blocks_36 : decode cX7_blocks 36 = .ok (.ifCond .ne 7, 3) := by decide +kernel
theorem dX7_blocks_39 : decode cX7_blocks 39 = .ok (.iload_n 3, 1) := by decide +kernel
theorem dX7_blocks_40 : decode cX7_blocks 40 = .ok (.goto 16, 3) := by decide +kernel
theorem dX7_blocks_43 : decode cX7_blocks 43 = .ok (.iload_n 3, 1) := by decide +kernel
theorem dX7_blocks_44 : decode cX7_blocks 44 = .ok (.ifCond .ge 7, 3) := by decide +kernel
theorem dX7_blocks_47 : decode cX7_blocks 47 = .ok (.iconst 0, 1) := by decide +kernel
theorem dX7_blocks_48 : decode cX7_blocks 48 = .ok (.goto 8, 3) := by decide +kernel
theorem dX7_blocks_51 : decode cX7_blocks 51 = .ok (.aload_n 0, 1) := by decide +kernel
theorem dX7_blocks_52 : decode cX7_blocks 52 = .ok (.iload_n 3, 1) := by decide +kernel
theorem dX7_blocks_53 : decode cX7_blocks 53 = .ok (.invokevirtual 253, 3) := by decide +kernel
theorem dX7_blocks_56 : decode cX7_blocks 56 = .ok (.ireturn, 1) := by decide +kernel
theorem dX7_lifts_0 : decode cX7_lifts 0 = .ok (.aload_n 0, 1) := by decide +kernel
theorem dX7_lifts_1 : decode cX7_lifts 1 = .ok (.invokevirtual 268, 3) := by decide +kernel
theorem dX7_lifts_4 : decode cX7_lifts 4 = .ok (.aload_n 0, 1) := by decide +kernel
theorem dX7_lifts_5 : decode cX7_lifts 5 = .ok (.getfield 259, 3) := by decide +kernel
theorem dX7_lifts_8 : decode cX7_lifts 8 = .ok (.ireturn, 1) := by decide +kernel
theorem dX7_group_0 : decode cX7_group 0 = .ok (.iload_n 1, 1) := by decide +kernel
theorem dX7_group_1 : decode cX7_group 1 = .ok (.ifCond .ge 10, 3) := by decide +kernel
theorem dX7_group_4 : decode cX7_group 4 = .ok (.aload_n 0, 1) := by decide +kernel
theorem dX7_group_5 : decode cX7_group 5 = .ok (.bipush (-4), 2) := by decide +kernel
theorem dX7_group_7 : decode cX7_group 7 = .ok (.invokevirtual 136, 3) := by decide +kernel
theorem dX7_group_10 : decode cX7_group 10 = .ok (.ireturn, 1) := by decide +kernel
theorem dX7_group_11 : decode cX7_group 11 = .ok (.iload_n 1, 1) := by decide +kernel
theorem dX7_group_12 : decode cX7_group 12 = .ok (.bipush 32, 2) := by decide +kernel
theorem dX7_group_14 : decode cX7_group 14 = .ok (.if_icmp .lt 10, 3) := by decide +kernel
theorem dX7_group_17 : decode cX7_group 17 = .ok (.aload_n 0, 1) := by decide +kernel
theorem dX7_group_18 : decode cX7_group 18 = .ok (.bipush (-6), 2) := by decide +kernel
theorem dX7_group_20 : decode cX7_group 20 = .ok (.invokevirtual 136, 3) := by decide +kernel
theorem dX7_group_23 : decode cX7_group 23 = .ok (.ireturn, 1) := by decide +kernel
theorem dX7_group_24 : decode cX7_group 24 = .ok (.aload_n 0, 1) := by decide +kernel
theorem dX7_group_25 : decode cX7_group 25 = .ok (.iload_n 1, 1) := by decide +kernel
theorem dX7_group_26 : decode cX7_group 26 = .ok (.invokevirtual 246, 3) := by decide +kernel
theorem dX7_group_29 : decode cX7_group 29 = .ok (.istore_n 3, 1) := by decide +kernel
theorem dX7_group_30 : decode cX7_group 30 = .ok (.iload_n 2, 1) := by decide +kernel
theorem dX7_group_31 : decode cX7_group 31 = .ok (.tableswitch 112 0 4 #[33, 39, 45, 56, 62], 33) := by decide +kernel
theorem dX7_group_64 : decode cX7_group 64 = .ok (.aload_n 0, 1) := by decide +kernel
theorem dX7_group_65 : decode cX7_group 65 = .ok (.iload_n 3, 1) := by decide +kernel
theorem dX7_group_66 : decode cX7_group 66 = .ok (.invokevirtual 225, 3) := by decide +kernel
theorem dX7_group_69 : decode cX7_group 69 = .ok (.ireturn, 1) := by decide +kernel
theorem dX7_group_70 : decode cX7_group 70 = .ok (.aload_n 0, 1) := by decide +kernel
theorem dX7_group_71 : decode cX7_group 71 = .ok (.iload_n 3, 1) := by decide +kernel
theorem dX7_group_72 : decode cX7_group 72 = .ok (.invokevirtual 133, 3) := by decide +kernel
theorem dX7_group_75 : decode cX7_group 75 = .ok (.ireturn, 1) := by decide +kernel
theorem dX7_group_76 : decode cX7_group 76 = .ok (.aload_n 0, 1) := by decide +kernel
theorem dX7_group_77 : decode cX7_group 77 = .ok (.aload_n 0, 1) := by decide +kernel
theorem dX7_group_78 : decode cX7_group 78 = .ok (.invokevirtual 219, 3) := by decide +kernel
theorem dX7_group_81 : decode cX7_group 81 = .ok (.iload_n 3, 1) := by decide +kernel
theorem dX7_group_82 : decode cX7_group 82 = .ok (.iand, 1) := by decide +kernel
theorem dX7_group_83 : decode cX7_group 83 = .ok (.invokevirtual 228, 3) := by decide +kernel
theorem dX7_group_86 : decode cX7_group 86 = .ok (.ireturn, 1) := by decide +kernel
theorem dX7_group_87 : decode cX7_group 87 = .ok (.aload_n 0, 1) := by decide +kernel
theorem dX7_group_88 : decode cX7_group 88 = .ok (.iload_n 3, 1) := by decide +kernel
theorem dX7_group_89 : decode cX7_group 89 = .ok (.invokevirtual 234, 3) := by decide +kernel
theorem dX7_group_92 : decode cX7_group 92 = .ok (.ireturn, 1) := by decide +kernel
theorem dX7_group_93 : decode cX7_group 93 = .ok (.aload_n 0, 1) := by decide +kernel
theorem dX7_group_94 : decode cX7_group 94 = .ok (.invokevirtual 256, 3) := by decide +kernel
theorem dX7_group_97 : decode cX7_group 97 = .ok (.iconst 0, 1) := by decide +kernel
theorem dX7_group_98 : decode cX7_group 98 = .ok (.istore 4, 2) := by decide +kernel
theorem dX7_group_100 : decode cX7_group 100 = .ok (.iconst 0, 1) := by decide +kernel
theorem dX7_group_101 : decode cX7_group 101 = .ok (.istore 5, 2) := by decide +kernel
theorem dX7_group_103 : decode cX7_group 103 = .ok (.iload 5, 2) := by decide +kernel
theorem dX7_group_105 : decode cX7_group 105 = .ok (.iconst 5, 1) := by decide +kernel
theorem dX7_group_106 : decode cX7_group 106 = .ok (.if_icmp .ge 34, 3) := by decide +kernel
theorem dX7_group_109 : decode cX7_group 109 = .ok (.iload 4, 2) := by decide +kernel
theorem dX7_group_111 : decode cX7_group 111 = .ok (.iload_n 1, 1) := by decide +kernel
theorem dX7_group_112 : decode cX7_group 112 = .ok (.iload 5, 2) := by decide +kernel
theorem dX7_group_114 : decode cX7_group 114 = .ok (.invokestatic 104, 3) := by decide +kernel
theorem dX7_group_117 : decode cX7_group 117 = .ok (.ifCond .eq 13, 3) := by decide +kernel
theorem dX7_group_120 : decode cX7_group 120 = .ok (.aload_n 0, 1) := by decide +kernel
theorem dX7_group_121 : decode cX7_group 121 = .ok (.getfield 83, 3) := by decide +kernel
theorem dX7_group_124 : decode cX7_group 124 = .ok (.iload 5, 2) := by decide +kernel
theorem dX7_group_126 : decode cX7_group 126 = .ok (.iaload, 1) := by decide +kernel
theorem dX7_group_127 : decode cX7_group 127 = .ok (.goto 4, 3) := by decide +kernel
theorem dX7_group_130 : decode cX7_group 130 = .ok (.iconst 0, 1) := by decide +kernel
theorem dX7_group_131 : decode cX7_group 131 = .ok (.iadd, 1) := by decide +kernel
theorem dX7_group_132 : decode cX7_group 132 = .ok (.istore 4, 2) := by decide +kernel
theorem dX7_group_134 : decode cX7_group 134 = .ok (.iinc 5 1, 3) := by decide +kernel
theorem dX7_group_137 : decode cX7_group 137 = .ok (.goto (-34), 3) := by decide +kernel
theorem dX7_group_140 : decode cX7_group 140 = .ok (.iload 4, 2) := by decide +kernel
theorem dX7_group_142 : decode cX7_group 142 = .ok (.ireturn, 1) := by decide +kernel
theorem dX7_group_143 : decode cX7_group 143 = .ok (.aload_n 0, 1) := by decide +kernel
theorem dX7_group_144 : decode cX7_group 144 = .ok (.bipush (-2), 2) := by decide +kernel
theorem dX7_group_146 : decode cX7_group 146 = .ok (.invokevirtual 136, 3) := by decide +kernel
theorem dX7_group_149 : decode cX7_group 149 = .ok (.ireturn, 1) := by decide +kernel
theorem dX7_envy_0 : decode cX7_envy 0 = .ok (.iload_n 1, 1) := by decide +kernel
theorem dX7_envy_1 : decode cX7_envy 1 = .ok (.iconst 0, 1) := by decide +kernel
theorem dX7_envy_2 : decode cX7_envy 2 = .ok (.iconst 4, 1) := by decide +kernel
theorem dX7_envy_3 : decode cX7_envy 3 = .ok (.invokestatic 96, 3) := by decide +kernel
theorem dX7_envy_6 : decode cX7_envy 6 = .ok (.ifCond .eq 17, 3) := by decide +kernel
theorem dX7_envy_9 : decode cX7_envy 9 = .ok (.iload_n 2, 1) := by decide +kernel
theorem dX7_envy_10 : decode cX7_envy 10 = .ok (.iconst 0, 1) := by decide +kernel
theorem dX7_envy_11 : decode cX7_envy 11 = .ok (.iconst 4, 1) := by decide +kernel
theorem dX7_envy_12 : decode cX7_envy 12 = .ok (.invokestatic 96, 3) := by decide +kernel
theorem dX7_envy_15 : decode cX7_envy 15 = .ok (.ifCond .eq 8, 3) := by decide +kernel
theorem dX7_envy_18 : decode cX7_envy 18 = .ok (.iload_n 1, 1) := by decide +kernel
theorem dX7_envy_19 : decode cX7_envy 19 = .ok (.iload_n 2, 1) := by decide +kernel
theorem dX7_envy_20 : decode cX7_envy 20 = .ok (.if_icmp .ne 9, 3) := by decide +kernel
theorem dX7_envy_23 : decode cX7_envy 23 = .ok (.aload_n 0, 1) := by decide +kernel
theorem dX7_envy_24 : decode cX7_envy 24 = .ok (.iconst (-1), 1) := by decide +kernel
theorem dX7_envy_25 : decode cX7_envy 25 = .ok (.invokevirtual 136, 3) := by decide +kernel
theorem dX7_envy_28 : decode cX7_envy 28 = .ok (.ireturn, 1) := by decide +kernel
theorem dX7_envy_29 : decode cX7_envy 29 = .ok (.aload_n 0, 1) := by decide +kernel
theorem dX7_envy_30 : decode cX7_envy 30 = .ok (.invokevirtual 256, 3) := by decide +kernel
theorem dX7_envy_33 : decode cX7_envy 33 = .ok (.aload_n 0, 1) := by decide +kernel
theorem dX7_envy_34 : decode cX7_envy 34 = .ok (.getfield 34, 3) := by decide +kernel
theorem dX7_envy_37 : decode cX7_envy 37 = .ok (.aload_n 0, 1) := by decide +kernel
theorem dX7_envy_38 : decode cX7_envy 38 = .ok (.invokevirtual 219, 3) := by decide +kernel
theorem dX7_envy_41 : decode cX7_envy 41 = .ok (.aload_n 0, 1) := by decide +kernel
theorem dX7_envy_42 : decode cX7_envy 42 = .ok (.getfield 37, 3) := by decide +kernel
theorem dX7_envy_45 : decode cX7_envy 45 = .ok (.iload_n 2, 1) := by decide +kernel
theorem dX7_envy_46 : decode cX7_envy 46 = .ok (.iaload, 1) := by decide +kernel
theorem dX7_envy_47 : decode cX7_envy 47 = .ok (.iand, 1) := by decide +kernel
theorem dX7_envy_48 : decode cX7_envy 48 = .ok (.iaload, 1) := by decide +kernel
theorem dX7_envy_49 : decode cX7_envy 49 = .ok (.istore_n 3, 1) := by decide +kernel
theorem dX7_envy_50 : decode cX7_envy 50 = .ok (.iconst 0, 1) := by decide +kernel
theorem dX7_envy_51 : decode cX7_envy 51 = .ok (.istore 4, 2) := by decide +kernel
theorem dX7_envy_53 : decode cX7_envy 53 = .ok (.iconst 0, 1) := by decide +kernel
theorem dX7_envy_54 : decode cX7_envy 54 = .ok (.istore 5, 2) := by decide +kernel
theorem dX7_envy_56 : decode cX7_envy 56 = .ok (.iload 5, 2) := by decide +kernel
theorem dX7_envy_58 : decode cX7_envy 58 = .ok (.iconst 1, 1) := by decide +kernel
theorem dX7_envy_59 : decode cX7_envy 59 = .ok (.aload_n 0, 1) := by decide +kernel
theorem dX7_envy_60 : decode cX7_envy 60 = .ok (.getfield 93, 3) := by decide +kernel
theorem dX7_envy_63 : decode cX7_envy 63 = .ok (.ishl, 1) := by decide +kernel
theorem dX7_envy_64 : decode cX7_envy 64 = .ok (.if_icmp .ge 65, 3) := by decide +kernel
theorem dX7_envy_67 : decode cX7_envy 67 = .ok (.iload 5, 2) := by decide +kernel
theorem dX7_envy_69 : decode cX7_envy 69 = .ok (.aload_n 0, 1) := by decide +kernel
theorem dX7_envy_70 : decode cX7_envy 70 = .ok (.getfield 37, 3) := by decide +kernel
theorem dX7_envy_73 : decode cX7_envy 73 = .ok (.iload_n 1, 1) := by decide +kernel
theorem dX7_envy_74 : decode cX7_envy 74 = .ok (.iaload, 1) := by decide +kernel
theorem dX7_envy_75 : decode cX7_envy 75 = .ok (.aload_n 0, 1) := by decide +kernel
theorem dX7_envy_76 : decode cX7_envy 76 = .ok (.getfield 127, 3) := by decide +kernel
theorem dX7_envy_79 : decode cX7_envy 79 = .ok (.iand, 1) := by decide +kernel
theorem dX7_envy_80 : decode cX7_envy 80 = .ok (.iconst (-1), 1) := by decide +kernel
theorem dX7_envy_81 : decode cX7_envy 81 = .ok (.ixor, 1) := by decide +kernel
theorem dX7_envy_82 : decode cX7_envy 82 = .ok (.iand, 1) := by decide +kernel
theorem dX7_envy_83 : decode cX7_envy 83 = .ok (.ifCond .ne 40, 3) := by decide +kernel
theorem dX7_envy_86 : decode cX7_envy 86 = .ok (.aload_n 0, 1) := by decide +kernel
theorem dX7_envy_87 : decode cX7_envy 87 = .ok (.getfield 31, 3) := by decide +kernel
theorem dX7_envy_90 : decode cX7_envy 90 = .ok (.iload 5, 2) := by decide +kernel
theorem dX7_envy_92 : decode cX7_envy 92 = .ok (.iaload, 1) := by decide +kernel
theorem dX7_envy_93 : decode cX7_envy 93 = .ok (.ifCond .lt 30, 3) := by decide +kernel
theorem dX7_envy_96 : decode cX7_envy 96 = .ok (.aload_n 0, 1) := by decide +kernel
theorem dX7_envy_97 : decode cX7_envy 97 = .ok (.getfield 34, 3) := by decide +kernel
theorem dX7_envy_100 : decode cX7_envy 100 = .ok (.iload 5, 2) := by decide +kernel
theorem dX7_envy_102 : decode cX7_envy 102 = .ok (.iaload, 1) := by decide +kernel
theorem dX7_envy_103 : decode cX7_envy 103 = .ok (.iload_n 3, 1) := by decide +kernel
theorem dX7_envy_104 : decode cX7_envy 104 = .ok (.iconst (-1), 1) := by decide +kernel
theorem dX7_envy_105 : decode cX7_envy 105 = .ok (.ixor, 1) := by decide +kernel
theorem dX7_envy_106 : decode cX7_envy 106 = .ok (.iand, 1) := by decide +kernel
theorem dX7_envy_107 : decode cX7_envy 107 = .ok (.ifCond .ne 16, 3) := by decide +kernel
theorem dX7_envy_110 : decode cX7_envy 110 = .ok (.iload 4, 2) := by decide +kernel
theorem dX7_envy_112 : decode cX7_envy 112 = .ok (.aload_n 0, 1) := by decide +kernel
theorem dX7_envy_113 : decode cX7_envy 113 = .ok (.iload 5, 2) := by decide +kernel
theorem dX7_envy_115 : decode cX7_envy 115 = .ok (.invokevirtual 228, 3) := by decide +kernel
theorem dX7_envy_118 : decode cX7_envy 118 = .ok (.invokestatic 211, 3) := by decide +kernel
theorem dX7_envy_121 : decode cX7_envy 121 = .ok (.istore 4, 2) := by decide +kernel
theorem dX7_envy_123 : decode cX7_envy 123 = .ok (.iinc 5 1, 3) := by decide +kernel
theorem dX7_envy_126 : decode cX7_envy 126 = .ok (.goto (-70), 3) := by decide +kernel
theorem dX7_envy_129 : decode cX7_envy 129 = .ok (.iconst 0, 1) := by decide +kernel
theorem dX7_envy_130 : decode cX7_envy 130 = .ok (.iload 4, 2) := by decide +kernel
theorem dX7_envy_132 : decode cX7_envy 132 = .ok (.aload_n 0, 1) := by decide +kernel
theorem dX7_envy_133 : decode cX7_envy 133 = .ok (.getfield 83, 3) := by decide +kernel
theorem dX7_envy_136 : decode cX7_envy 136 = .ok (.iload_n 2, 1) := by decide +kernel
theorem dX7_envy_137 : decode cX7_envy 137 = .ok (.iaload, 1) := by decide +kernel
theorem dX7_envy_138 : decode cX7_envy 138 = .ok (.isub, 1) := by decide +kernel
theorem dX7_envy_139 : decode cX7_envy 139 = .ok (.aload_n 0, 1) := by decide +kernel
theorem dX7_envy_140 : decode cX7_envy 140 = .ok (.getfield 80, 3) := by decide +kernel
theorem dX7_envy_143 : decode cX7_envy 143 = .ok (.iload_n 1, 1) := by decide +kernel
theorem dX7_envy_144 : decode cX7_envy 144 = .ok (.iaload, 1) := by decide +kernel
theorem dX7_envy_145 : decode cX7_envy 145 = .ok (.aload_n 0, 1) := by decide +kernel
theorem dX7_envy_146 : decode cX7_envy 146 = .ok (.getfield 83, 3) := by decide +kernel
theorem dX7_envy_149 : decode cX7_envy 149 = .ok (.iload_n 1, 1) := by decide +kernel
theorem dX7_envy_150 : decode cX7_envy 150 = .ok (.iaload, 1) := by decide +kernel
theorem dX7_envy_151 : decode cX7_envy 151 = .ok (.isub, 1) := by decide +kernel
theorem dX7_envy_152 : decode cX7_envy 152 = .ok (.isub, 1) := by decide +kernel
theorem dX7_envy_153 : decode cX7_envy 153 = .ok (.invokestatic 211, 3) := by decide +kernel
theorem dX7_envy_156 : decode cX7_envy 156 = .ok (.ireturn, 1) := by decide +kernel
theorem dX7_gain_0 : decode cX7_gain 0 = .ok (.iload_n 1, 1) := by decide +kernel
theorem dX7_gain_1 : decode cX7_gain 1 = .ok (.iconst 0, 1) := by decide +kernel
theorem dX7_gain_2 : decode cX7_gain 2 = .ok (.iconst 4, 1) := by decide +kernel
theorem dX7_gain_3 : decode cX7_gain 3 = .ok (.invokestatic 96, 3) := by decide +kernel
theorem dX7_gain_6 : decode cX7_gain 6 = .ok (.ifCond .ne 13, 3) := by decide +kernel
theorem dX7_gain_9 : decode cX7_gain 9 = .ok (.ldc_w 274, 3) := by decide +kernel
theorem dX7_gain_12 : decode cX7_gain 12 = .ok (.aload_n 0, 1) := by decide +kernel
theorem dX7_gain_13 : decode cX7_gain 13 = .ok (.iconst (-1), 1) := by decide +kernel
theorem dX7_gain_14 : decode cX7_gain 14 = .ok (.invokevirtual 136, 3) := by decide +kernel
theorem dX7_gain_17 : decode cX7_gain 17 = .ok (.iadd, 1) := by decide +kernel
theorem dX7_gain_18 : decode cX7_gain 18 = .ok (.ireturn, 1) := by decide +kernel
theorem dX7_gain_19 : decode cX7_gain 19 = .ok (.aload_n 0, 1) := by decide +kernel
theorem dX7_gain_20 : decode cX7_gain 20 = .ok (.invokevirtual 256, 3) := by decide +kernel
theorem dX7_gain_23 : decode cX7_gain 23 = .ok (.aload_n 0, 1) := by decide +kernel
theorem dX7_gain_24 : decode cX7_gain 24 = .ok (.getfield 80, 3) := by decide +kernel
theorem dX7_gain_27 : decode cX7_gain 27 = .ok (.iload_n 1, 1) := by decide +kernel
theorem dX7_gain_28 : decode cX7_gain 28 = .ok (.iaload, 1) := by decide +kernel
theorem dX7_gain_29 : decode cX7_gain 29 = .ok (.aload_n 0, 1) := by decide +kernel
theorem dX7_gain_30 : decode cX7_gain 30 = .ok (.getfield 83, 3) := by decide +kernel
theorem dX7_gain_33 : decode cX7_gain 33 = .ok (.iload_n 1, 1) := by decide +kernel
theorem dX7_gain_34 : decode cX7_gain 34 = .ok (.iaload, 1) := by decide +kernel
theorem dX7_gain_35 : decode cX7_gain 35 = .ok (.isub, 1) := by decide +kernel
theorem dX7_gain_36 : decode cX7_gain 36 = .ok (.istore_n 2, 1) := by decide +kernel
theorem dX7_gain_37 : decode cX7_gain 37 = .ok (.aload_n 0, 1) := by decide +kernel
theorem dX7_gain_38 : decode cX7_gain 38 = .ok (.getfield 37, 3) := by decide +kernel
theorem dX7_gain_41 : decode cX7_gain 41 = .ok (.iload_n 1, 1) := by decide +kernel
theorem dX7_gain_42 : decode cX7_gain 42 = .ok (.iaload, 1) := by decide +kernel
theorem dX7_gain_43 : decode cX7_gain 43 = .ok (.istore_n 3, 1) := by decide +kernel
theorem dX7_gain_44 : decode cX7_gain 44 = .ok (.aload_n 0, 1) := by decide +kernel
theorem dX7_gain_45 : decode cX7_gain 45 = .ok (.iload_n 1, 1) := by decide +kernel
theorem dX7_gain_46 : decode cX7_gain 46 = .ok (.putfield 40, 3) := by decide +kernel
theorem dX7_gain_49 : decode cX7_gain 49 = .ok (.aload_n 0, 1) := by decide +kernel
theorem dX7_gain_50 : decode cX7_gain 50 = .ok (.iconst 1, 1) := by decide +kernel
theorem dX7_gain_51 : decode cX7_gain 51 = .ok (.putfield 89, 3) := by decide +kernel
theorem dX7_gain_54 : decode cX7_gain 54 = .ok (.aload_n 0, 1) := by decide +kernel
theorem dX7_gain_55 : decode cX7_gain 55 = .ok (.invokevirtual 219, 3) := by decide +kernel
theorem dX7_gain_58 : decode cX7_gain 58 = .ok (.istore 4, 2) := by decide +kernel
theorem dX7_gain_60 : decode cX7_gain 60 = .ok (.iconst 0, 1) := by decide +kernel
theorem dX7_gain_61 : decode cX7_gain 61 = .ok (.istore 5, 2) := by decide +kernel
theorem dX7_gain_63 : decode cX7_gain 63 = .ok (.iconst 0, 1) := by decide +kernel
theorem dX7_gain_64 : decode cX7_gain 64 = .ok (.istore 6, 2) := by decide +kernel
theorem dX7_gain_66 : decode cX7_gain 66 = .ok (.iload 6, 2) := by decide +kernel
theorem dX7_gain_68 : decode cX7_gain 68 = .ok (.aload_n 0, 1) := by decide +kernel
theorem dX7_gain_69 : decode cX7_gain 69 = .ok (.getfield 93, 3) := by decide +kernel
theorem dX7_gain_72 : decode cX7_gain 72 = .ok (.if_icmp .ge 42, 3) := by decide +kernel
theorem dX7_gain_75 : decode cX7_gain 75 = .ok (.iload 4, 2) := by decide +kernel
theorem dX7_gain_77 : decode cX7_gain 77 = .ok (.iload_n 3, 1) := by decide +kernel
theorem dX7_gain_78 : decode cX7_gain 78 = .ok (.iand, 1) := by decide +kernel
theorem dX7_gain_79 : decode cX7_gain 79 = .ok (.iload 6, 2) := by decide +kernel
theorem dX7_gain_81 : decode cX7_gain 81 = .ok (.invokestatic 104, 3) := by decide +kernel
theorem dX7_gain_84 : decode cX7_gain 84 = .ok (.ifCond .eq 24, 3) := by decide +kernel
theorem dX7_gain_87 : decode cX7_gain 87 = .ok (.iload 5, 2) := by decide +kernel
theorem dX7_gain_89 : decode cX7_gain 89 = .ok (.aload_n 0, 1) := by decide +kernel
theorem dX7_gain_90 : decode cX7_gain 90 = .ok (.getfield 25, 3) := by decide +kernel
theorem dX7_gain_93 : decode cX7_gain 93 = .ok (.iload 6, 2) := by decide +kernel
theorem dX7_gain_95 : decode cX7_gain 95 = .ok (.iaload, 1) := by decide +kernel
theorem dX7_gain_96 : decode cX7_gain 96 = .ok (.aload_n 0, 1) := by decide +kernel
theorem dX7_gain_97 : decode cX7_gain 97 = .ok (.iconst 1, 1) := by decide +kernel
theorem dX7_gain_98 : decode cX7_gain 98 = .ok (.iload 6, 2) := by decide +kernel
theorem dX7_gain_100 : decode cX7_gain 100 = .ok (.ishl, 1) := by decide +kernel
theorem dX7_gain_101 : decode cX7_gain 101 = .ok (.invokevirtual 234, 3) := by decide +kernel
theorem dX7_gain_104 : decode cX7_gain 104 = .ok (.isub, 1) := by decide +kernel
theorem dX7_gain_105 : decode cX7_gain 105 = .ok (.iadd, 1) := by decide +kernel
theorem dX7_gain_106 : decode cX7_gain 106 = .ok (.istore 5, 2) := by decide +kernel
theorem dX7_gain_108 : decode cX7_gain 108 = .ok (.iinc 6 1, 3) := by decide +kernel
theorem dX7_gain_111 : decode cX7_gain 111 = .ok (.goto (-45), 3) := by decide +kernel
theorem dX7_gain_114 : decode cX7_gain 114 = .ok (.aload_n 0, 1) := by decide +kernel
theorem dX7_gain_115 : decode cX7_gain 115 = .ok (.bipush (-9), 2) := by decide +kernel
theorem dX7_gain_117 : decode cX7_gain 117 = .ok (.putfield 40, 3) := by decide +kernel
theorem dX7_gain_120 : decode cX7_gain 120 = .ok (.aload_n 0, 1) := by decide +kernel
theorem dX7_gain_121 : decode cX7_gain 121 = .ok (.iconst 1, 1) := by decide +kernel
theorem dX7_gain_122 : decode cX7_gain 122 = .ok (.putfield 89, 3) := by decide +kernel
theorem dX7_gain_125 : decode cX7_gain 125 = .ok (.iload 5, 2) := by decide +kernel
theorem dX7_gain_127 : decode cX7_gain 127 = .ok (.iload_n 2, 1) := by decide +kernel
theorem dX7_gain_128 : decode cX7_gain 128 = .ok (.isub, 1) := by decide +kernel
theorem dX7_gain_129 : decode cX7_gain 129 = .ok (.ireturn, 1) := by decide +kernel
theorem dX7_without_0 : decode cX7_without 0 = .ok (.aload_n 0, 1) := by decide +kernel
theorem dX7_without_1 : decode cX7_without 1 = .ok (.iload_n 1, 1) := by decide +kernel
theorem dX7_without_2 : decode cX7_without 2 = .ok (.invokevirtual 202, 3) := by decide +kernel
theorem dX7_without_5 : decode cX7_without 5 = .ok (.ifCond .eq 20, 3) := by decide +kernel
theorem dX7_without_8 : decode cX7_without 8 = .ok (.aload_n 0, 1) := by decide +kernel
theorem dX7_without_9 : decode cX7_without 9 = .ok (.aload_n 0, 1) := by decide +kernel
theorem dX7_without_10 : decode cX7_without 10 = .ok (.getfield 127, 3) := by decide +kernel
theorem dX7_without_13 : decode cX7_without 13 = .ok (.iconst 1, 1) := by decide +kernel
theorem dX7_without_14 : decode cX7_without 14 = .ok (.iload_n 1, 1) := by decide +kernel
theorem dX7_without_15 : decode cX7_without 15 = .ok (.ishl, 1) := by decide +kernel
theorem dX7_without_16 : decode cX7_without 16 = .ok (.iconst (-1), 1) := by decide +kernel
theorem dX7_without_17 : decode cX7_without 17 = .ok (.ixor, 1) := by decide +kernel
theorem dX7_without_18 : decode cX7_without 18 = .ok (.iand, 1) := by decide +kernel
theorem dX7_without_19 : decode cX7_without 19 = .ok (.invokevirtual 225, 3) := by decide +kernel
theorem dX7_without_22 : decode cX7_without 22 = .ok (.goto 8, 3) := by decide +kernel
theorem dX7_without_25 : decode cX7_without 25 = .ok (.aload_n 0, 1) := by decide +kernel
theorem dX7_without_26 : decode cX7_without 26 = .ok (.iconst (-1), 1) := by decide +kernel
theorem dX7_without_27 : decode cX7_without 27 = .ok (.invokevirtual 136, 3) := by decide +kernel
theorem dX7_without_30 : decode cX7_without 30 = .ok (.ireturn, 1) := by decide +kernel
theorem dX7_winsBy_0 : decode cX7_winsBy 0 = .ok (.aload_n 0, 1) := by decide +kernel
theorem dX7_winsBy_1 : decode cX7_winsBy 1 = .ok (.getfield 25, 3) := by decide +kernel
theorem dX7_winsBy_4 : decode cX7_winsBy 4 = .ok (.iload_n 1, 1) := by decide +kernel
theorem dX7_winsBy_5 : decode cX7_winsBy 5 = .ok (.iaload, 1) := by decide +kernel
theorem dX7_winsBy_6 : decode cX7_winsBy 6 = .ok (.istore_n 3, 1) := by decide +kernel
theorem dX7_winsBy_7 : decode cX7_winsBy 7 = .ok (.aload_n 0, 1) := by decide +kernel
theorem dX7_winsBy_8 : decode cX7_winsBy 8 = .ok (.getfield 25, 3) := by decide +kernel
theorem dX7_winsBy_11 : decode cX7_winsBy 11 = .ok (.iload_n 1, 1) := by decide +kernel
theorem dX7_winsBy_12 : decode cX7_winsBy 12 = .ok (.iload_n 2, 1) := by decide +kernel
theorem dX7_winsBy_13 : decode cX7_winsBy 13 = .ok (.iastore, 1) := by decide +kernel
theorem dX7_winsBy_14 : decode cX7_winsBy 14 = .ok (.aload_n 0, 1) := by decide +kernel
theorem dX7_winsBy_15 : decode cX7_winsBy 15 = .ok (.iconst 1, 1) := by decide +kernel
theorem dX7_winsBy_16 : decode cX7_winsBy 16 = .ok (.putfield 89, 3) := by decide +kernel
theorem dX7_winsBy_19 : decode cX7_winsBy 19 = .ok (.aload_n 0, 1) := by decide +kernel
theorem dX7_winsBy_20 : decode cX7_winsBy 20 = .ok (.invokevirtual 219, 3) := by decide +kernel
theorem dX7_winsBy_23 : decode cX7_winsBy 23 = .ok (.iload_n 1, 1) := by decide +kernel
theorem dX7_winsBy_24 : decode cX7_winsBy 24 = .ok (.invokestatic 104, 3) := by decide +kernel
theorem dX7_winsBy_27 : decode cX7_winsBy 27 = .ok (.istore 4, 2) := by decide +kernel
theorem dX7_winsBy_29 : decode cX7_winsBy 29 = .ok (.aload_n 0, 1) := by decide +kernel
theorem dX7_winsBy_30 : decode cX7_winsBy 30 = .ok (.getfield 25, 3) := by decide +kernel
theorem dX7_winsBy_33 : decode cX7_winsBy 33 = .ok (.iload_n 1, 1) := by decide +kernel
theorem dX7_winsBy_34 : decode cX7_winsBy 34 = .ok (.iload_n 3, 1) := by decide +kernel
theorem dX7_winsBy_35 : decode cX7_winsBy 35 = .ok (.iastore, 1) := by decide +kernel
theorem dX7_winsBy_36 : decode cX7_winsBy 36 = .ok (.aload_n 0, 1) := by decide +kernel
theorem dX7_winsBy_37 : decode cX7_winsBy 37 = .ok (.iconst 1, 1) := by decide +kernel
theorem dX7_winsBy_38 : decode cX7_winsBy 38 = .ok (.putfield 89, 3) := by decide +kernel
theorem dX7_winsBy_41 : decode cX7_winsBy 41 = .ok (.iload 4, 2) := by decide +kernel
theorem dX7_winsBy_43 : decode cX7_winsBy 43 = .ok (.ireturn, 1) := by decide +kernel
theorem dX7_least_0 : decode cX7_least 0 = .ok (.aload_n 0, 1) := by decide +kernel
theorem dX7_least_1 : decode cX7_least 1 = .ok (.iload_n 1, 1) := by decide +kernel
theorem dX7_least_2 : decode cX7_least 2 = .ok (.invokevirtual 202, 3) := by decide +kernel
theorem dX7_least_5 : decode cX7_least 5 = .ok (.ifCond .ne 9, 3) := by decide +kernel
theorem dX7_least_8 : decode cX7_least 8 = .ok (.aload_n 0, 1) := by decide +kernel
theorem dX7_least_9 : decode cX7_least 9 = .ok (.iconst (-1), 1) := by decide +kernel
theorem dX7_least_10 : decode cX7_least 10 = .ok (.invokevirtual 136, 3) := by decide +kernel
theorem dX7_least_13 : decode cX7_least 13 = .ok (.ireturn, 1) := by decide +kernel
theorem dX7_least_14 : decode cX7_least 14 = .ok (.aload_n 0, 1) := by decide +kernel
theorem dX7_least_15 : decode cX7_least 15 = .ok (.getfield 127, 3) := by decide +kernel
theorem dX7_least_18 : decode cX7_least 18 = .ok (.istore_n 2, 1) := by decide +kernel
theorem dX7_least_19 : decode cX7_least 19 = .ok (.aload_n 0, 1) := by decide +kernel
theorem dX7_least_20 : decode cX7_least 20 = .ok (.dup, 1) := by decide +kernel
theorem dX7_least_21 : decode cX7_least 21 = .ok (.getfield 127, 3) := by decide +kernel
theorem dX7_least_24 : decode cX7_least 24 = .ok (.iconst 1, 1) := by decide +kernel
theorem dX7_least_25 : decode cX7_least 25 = .ok (.iload_n 1, 1) := by decide +kernel
theorem dX7_least_26 : decode cX7_least 26 = .ok (.ishl, 1) := by decide +kernel
theorem dX7_least_27 : decode cX7_least 27 = .ok (.ior, 1) := by decide +kernel
theorem dX7_least_28 : decode cX7_least 28 = .ok (.putfield 127, 3) := by decide +kernel
theorem dX7_least_31 : decode cX7_least 31 = .ok (.bipush (-9), 2) := by decide +kernel
theorem dX7_least_33 : decode cX7_least 33 = .ok (.istore_n 3, 1) := by decide +kernel
theorem dX7_least_34 : decode cX7_least 34 = .ok (.iconst 1, 1) := by decide +kernel
theorem dX7_least_35 : decode cX7_least 35 = .ok (.istore 4, 2) := by decide +kernel
theorem dX7_least_37 : decode cX7_least 37 = .ok (.iload 4, 2) := by decide +kernel
theorem dX7_least_39 : decode cX7_least 39 = .ok (.bipush 100, 2) := by decide +kernel
theorem dX7_least_41 : decode cX7_least 41 = .ok (.if_icmp .ge 31, 3) := by decide +kernel
theorem dX7_least_44 : decode cX7_least 44 = .ok (.iload_n 3, 1) := by decide +kernel
theorem dX7_least_45 : decode cX7_least 45 = .ok (.ifCond .ge 27, 3) := by decide +kernel
theorem dX7_least_48 : decode cX7_least 48 = .ok (.aload_n 0, 1) := by decide +kernel
theorem dX7_least_49 : decode cX7_least 49 = .ok (.iload_n 1, 1) := by decide +kernel
theorem dX7_least_50 : decode cX7_least 50 = .ok (.iload 4, 2) := by decide +kernel
theorem dX7_least_52 : decode cX7_least 52 = .ok (.invokevirtual 275, 3) := by decide +kernel
theorem dX7_least_55 : decode cX7_least 55 = .ok (.ifCond .eq 8, 3) := by decide +kernel
theorem dX7_least_58 : decode cX7_least 58 = .ok (.iload 4, 2) := by decide +kernel
theorem dX7_least_60 : decode cX7_least 60 = .ok (.goto 5, 3) := by decide +kernel
theorem dX7_least_63 : decode cX7_least 63 = .ok (.bipush (-9), 2) := by decide +kernel
theorem dX7_least_65 : decode cX7_least 65 = .ok (.istore_n 3, 1) := by decide +kernel
theorem dX7_least_66 : decode cX7_least 66 = .ok (.iinc 4 1, 3) := by decide +kernel
theorem dX7_least_69 : decode cX7_least 69 = .ok (.goto (-32), 3) := by decide +kernel
theorem dX7_least_72 : decode cX7_least 72 = .ok (.aload_n 0, 1) := by decide +kernel
theorem dX7_least_73 : decode cX7_least 73 = .ok (.iload_n 2, 1) := by decide +kernel
theorem dX7_least_74 : decode cX7_least 74 = .ok (.putfield 127, 3) := by decide +kernel
theorem dX7_least_77 : decode cX7_least 77 = .ok (.iload_n 3, 1) := by decide +kernel
theorem dX7_least_78 : decode cX7_least 78 = .ok (.ireturn, 1) := by decide +kernel
theorem dX7_tight_0 : decode cX7_tight 0 = .ok (.aload_n 0, 1) := by decide +kernel
theorem dX7_tight_1 : decode cX7_tight 1 = .ok (.invokevirtual 219, 3) := by decide +kernel
theorem dX7_tight_4 : decode cX7_tight 4 = .ok (.istore_n 1, 1) := by decide +kernel
theorem dX7_tight_5 : decode cX7_tight 5 = .ok (.iconst 0, 1) := by decide +kernel
theorem dX7_tight_6 : decode cX7_tight 6 = .ok (.istore_n 2, 1) := by decide +kernel
theorem dX7_tight_7 : decode cX7_tight 7 = .ok (.iconst 0, 1) := by decide +kernel
theorem dX7_tight_8 : decode cX7_tight 8 = .ok (.istore_n 3, 1) := by decide +kernel
theorem dX7_tight_9 : decode cX7_tight 9 = .ok (.iload_n 3, 1) := by decide +kernel
theorem dX7_tight_10 : decode cX7_tight 10 = .ok (.aload_n 0, 1) := by decide +kernel
theorem dX7_tight_11 : decode cX7_tight 11 = .ok (.getfield 93, 3) := by decide +kernel
theorem dX7_tight_14 : decode cX7_tight 14 = .ok (.if_icmp .ge 43, 3) := by decide +kernel
theorem dX7_tight_17 : decode cX7_tight 17 = .ok (.iload_n 2, 1) := by decide +kernel
theorem dX7_tight_18 : decode cX7_tight 18 = .ok (.iload_n 1, 1) := by decide +kernel
theorem dX7_tight_19 : decode cX7_tight 19 = .ok (.iload_n 3, 1) := by decide +kernel
theorem dX7_tight_20 : decode cX7_tight 20 = .ok (.invokestatic 104, 3) := by decide +kernel
theorem dX7_tight_23 : decode cX7_tight 23 = .ok (.ifCond .eq 25, 3) := by decide +kernel
theorem dX7_tight_26 : decode cX7_tight 26 = .ok (.aload_n 0, 1) := by decide +kernel
theorem dX7_tight_27 : decode cX7_tight 27 = .ok (.iload_n 3, 1) := by decide +kernel
theorem dX7_tight_28 : decode cX7_tight 28 = .ok (.aload_n 0, 1) := by decide +kernel
theorem dX7_tight_29 : decode cX7_tight 29 = .ok (.getfield 25, 3) := by decide +kernel
theorem dX7_tight_32 : decode cX7_tight 32 = .ok (.iload_n 3, 1) := by decide +kernel
theorem dX7_tight_33 : decode cX7_tight 33 = .ok (.iaload, 1) := by decide +kernel
theorem dX7_tight_34 : decode cX7_tight 34 = .ok (.iconst 1, 1) := by decide +kernel
theorem dX7_tight_35 : decode cX7_tight 35 = .ok (.isub, 1) := by decide +kernel
theorem dX7_tight_36 : decode cX7_tight 36 = .ok (.invokevirtual 275, 3) := by decide +kernel
theorem dX7_tight_39 : decode cX7_tight 39 = .ok (.ifCond .ne 9, 3) := by decide +kernel
theorem dX7_tight_42 : decode cX7_tight 42 = .ok (.iconst 1, 1) := by decide +kernel
theorem dX7_tight_43 : decode cX7_tight 43 = .ok (.iload_n 3, 1) := by decide +kernel
theorem dX7_tight_44 : decode cX7_tight 44 = .ok (.ishl, 1) := by decide +kernel
theorem dX7_tight_45 : decode cX7_tight 45 = .ok (.goto 4, 3) := by decide +kernel
theorem dX7_tight_48 : decode cX7_tight 48 = .ok (.iconst 0, 1) := by decide +kernel
theorem dX7_tight_49 : decode cX7_tight 49 = .ok (.ior, 1) := by decide +kernel
theorem dX7_tight_50 : decode cX7_tight 50 = .ok (.istore_n 2, 1) := by decide +kernel
theorem dX7_tight_51 : decode cX7_tight 51 = .ok (.iinc 3 1, 3) := by decide +kernel
theorem dX7_tight_54 : decode cX7_tight 54 = .ok (.goto (-45), 3) := by decide +kernel
theorem dX7_tight_57 : decode cX7_tight 57 = .ok (.iload_n 2, 1) := by decide +kernel
theorem dX7_tight_58 : decode cX7_tight 58 = .ok (.ireturn, 1) := by decide +kernel
theorem dX7_common_0 : decode cX7_common 0 = .ok (.lload_n 2, 1) := by decide +kernel
theorem dX7_common_1 : decode cX7_common 1 = .ok (.lconst 0, 1) := by decide +kernel
theorem dX7_common_2 : decode cX7_common 2 = .ok (.lcmp, 1) := by decide +kernel
theorem dX7_common_3 : decode cX7_common 3 = .ok (.ifCond .eq 16, 3) := by decide +kernel
theorem dX7_common_6 : decode cX7_common 6 = .ok (.lload_n 0, 1) := by decide +kernel
theorem dX7_common_7 : decode cX7_common 7 = .ok (.lload_n 2, 1) := by decide +kernel
theorem dX7_common_8 : decode cX7_common 8 = .ok (.lrem, 1) := by decide +kernel
theorem dX7_common_9 : decode cX7_common 9 = .ok (.lstore 4, 2) := by decide +kernel
theorem dX7_common_11 : decode cX7_common 11 = .ok (.lload_n 2, 1) := by decide +kernel
theorem dX7_common_12 : decode cX7_common 12 = .ok (.lstore_n 0, 1) := by decide +kernel
theorem dX7_common_13 : decode cX7_common 13 = .ok (.lload 4, 2) := by decide +kernel
theorem dX7_common_15 : decode cX7_common 15 = .ok (.lstore_n 2, 1) := by decide +kernel
theorem dX7_common_16 : decode cX7_common 16 = .ok (.goto (-16), 3) := by decide +kernel
theorem dX7_common_19 : decode cX7_common 19 = .ok (.lload_n 0, 1) := by decide +kernel
theorem dX7_common_20 : decode cX7_common 20 = .ok (.lreturn, 1) := by decide +kernel
theorem dX7_partOf_0 : decode cX7_partOf 0 = .ok (.iload 4, 2) := by decide +kernel
theorem dX7_partOf_2 : decode cX7_partOf 2 = .ok (.ifCond .ne 7, 3) := by decide +kernel
theorem dX7_partOf_5 : decode cX7_partOf 5 = .ok (.lload_n 0, 1) := by decide +kernel
theorem dX7_partOf_6 : decode cX7_partOf 6 = .ok (.goto 4, 3) := by decide +kernel
theorem dX7_partOf_9 : decode cX7_partOf 9 = .ok (.lload_n 2, 1) := by decide +kernel
theorem dX7_partOf_10 : decode cX7_partOf 10 = .ok (.lload_n 0, 1) := by decide +kernel
theorem dX7_partOf_11 : decode cX7_partOf 11 = .ok (.lload_n 2, 1) := by decide +kernel
theorem dX7_partOf_12 : decode cX7_partOf 12 = .ok (.invokestatic 278, 3) := by decide +kernel
theorem dX7_partOf_15 : decode cX7_partOf 15 = .ok (.ldiv, 1) := by decide +kernel
theorem dX7_partOf_16 : decode cX7_partOf 16 = .ok (.lreturn, 1) := by decide +kernel
theorem dX7_missing_0 : decode cX7_missing 0 = .ok (.aload_n 0, 1) := by decide +kernel
theorem dX7_missing_1 : decode cX7_missing 1 = .ok (.iload_n 1, 1) := by decide +kernel
theorem dX7_missing_2 : decode cX7_missing 2 = .ok (.invokevirtual 202, 3) := by decide +kernel
theorem dX7_missing_5 : decode cX7_missing 5 = .ok (.ifCond .ne 14, 3) := by decide +kernel
theorem dX7_missing_8 : decode cX7_missing 8 = .ok (.ldc2_w 282, 3) := by decide +kernel
theorem dX7_missing_11 : decode cX7_missing 11 = .ok (.aload_n 0, 1) := by decide +kernel
theorem dX7_missing_12 : decode cX7_missing 12 = .ok (.iconst (-1), 1) := by decide +kernel
theorem dX7_missing_13 : decode cX7_missing 13 = .ok (.invokevirtual 136, 3) := by decide +kernel
theorem dX7_missing_16 : decode cX7_missing 16 = .ok (.i2l, 1) := by decide +kernel
theorem dX7_missing_17 : decode cX7_missing 17 = .ok (.lsub, 1) := by decide +kernel
theorem dX7_missing_18 : decode cX7_missing 18 = .ok (.lreturn, 1) := by decide +kernel
theorem dX7_missing_19 : decode cX7_missing 19 = .ok (.iload_n 2, 1) := by decide +kernel
theorem dX7_missing_20 : decode cX7_missing 20 = .ok (.iconst 2, 1) := by decide +kernel
theorem dX7_missing_21 : decode cX7_missing 21 = .ok (.if_icmp .ge 15, 3) := by decide +kernel
theorem dX7_missing_24 : decode cX7_missing 24 = .ok (.ldc2_w 282, 3) := by decide +kernel
theorem dX7_missing_27 : decode cX7_missing 27 = .ok (.aload_n 0, 1) := by decide +kernel
theorem dX7_missing_28 : decode cX7_missing 28 = .ok (.bipush (-4), 2) := by decide +kernel
theorem dX7_missing_30 : decode cX7_missing 30 = .ok (.invokevirtual 136, 3) := by decide +kernel
theorem dX7_missing_33 : decode cX7_missing 33 = .ok (.i2l, 1) := by decide +kernel
theorem dX7_missing_34 : decode cX7_missing 34 = .ok (.lsub, 1) := by decide +kernel
theorem dX7_missing_35 : decode cX7_missing 35 = .ok (.lreturn, 1) := by decide +kernel
theorem dX7_missing_36 : decode cX7_missing 36 = .ok (.iload_n 2, 1) := by decide +kernel
theorem dX7_missing_37 : decode cX7_missing 37 = .ok (.bipush 20, 2) := by decide +kernel
theorem dX7_missing_39 : decode cX7_missing 39 = .ok (.if_icmp .le 15, 3) := by decide +kernel
theorem dX7_missing_42 : decode cX7_missing 42 = .ok (.ldc2_w 282, 3) := by decide +kernel
theorem dX7_missing_45 : decode cX7_missing 45 = .ok (.aload_n 0, 1) := by decide +kernel
theorem dX7_missing_46 : decode cX7_missing 46 = .ok (.bipush (-6), 2) := by decide +kernel
theorem dX7_missing_48 : decode cX7_missing 48 = .ok (.invokevirtual 136, 3) := by decide +kernel
theorem dX7_missing_51 : decode cX7_missing 51 = .ok (.i2l, 1) := by decide +kernel
theorem dX7_missing_52 : decode cX7_missing 52 = .ok (.lsub, 1) := by decide +kernel
theorem dX7_missing_53 : decode cX7_missing 53 = .ok (.lreturn, 1) := by decide +kernel
theorem dX7_missing_54 : decode cX7_missing 54 = .ok (.iload_n 3, 1) := by decide +kernel
theorem dX7_missing_55 : decode cX7_missing 55 = .ok (.iconst 0, 1) := by decide +kernel
theorem dX7_missing_56 : decode cX7_missing 56 = .ok (.iconst 1, 1) := by decide +kernel
theorem dX7_missing_57 : decode cX7_missing 57 = .ok (.invokestatic 96, 3) := by decide +kernel
theorem dX7_missing_60 : decode cX7_missing 60 = .ok (.ifCond .ne 15, 3) := by decide +kernel
theorem dX7_missing_63 : decode cX7_missing 63 = .ok (.ldc2_w 282, 3) := by decide +kernel
theorem dX7_missing_66 : decode cX7_missing 66 = .ok (.aload_n 0, 1) := by decide +kernel
theorem dX7_missing_67 : decode cX7_missing 67 = .ok (.bipush (-2), 2) := by decide +kernel
theorem dX7_missing_69 : decode cX7_missing 69 = .ok (.invokevirtual 136, 3) := by decide +kernel
theorem dX7_missing_72 : decode cX7_missing 72 = .ok (.i2l, 1) := by decide +kernel
theorem dX7_missing_73 : decode cX7_missing 73 = .ok (.lsub, 1) := by decide +kernel
theorem dX7_missing_74 : decode cX7_missing 74 = .ok (.lreturn, 1) := by decide +kernel
theorem dX7_missing_75 : decode cX7_missing 75 = .ok (.lconst 0, 1) := by decide +kernel
theorem dX7_missing_76 : decode cX7_missing 76 = .ok (.lstore 4, 2) := by decide +kernel
theorem dX7_missing_78 : decode cX7_missing 78 = .ok (.lconst 1, 1) := by decide +kernel
theorem dX7_missing_79 : decode cX7_missing 79 = .ok (.lstore 6, 2) := by decide +kernel
theorem dX7_missing_81 : decode cX7_missing 81 = .ok (.aload_n 0, 1) := by decide +kernel
theorem dX7_missing_82 : decode cX7_missing 82 = .ok (.getfield 127, 3) := by decide +kernel
theorem dX7_missing_85 : decode cX7_missing 85 = .ok (.invokestatic 100, 3) := by decide +kernel
theorem dX7_missing_88 : decode cX7_missing 88 = .ok (.istore 8, 2) := by decide +kernel
theorem dX7_missing_90 : decode cX7_missing 90 = .ok (.iload 8, 2) := by decide +kernel
theorem dX7_missing_92 : decode cX7_missing 92 = .ok (.ifCond .le 16, 3) := by decide +kernel
theorem dX7_missing_95 : decode cX7_missing 95 = .ok (.lload 6, 2) := by decide +kernel
theorem dX7_missing_97 : decode cX7_missing 97 = .ok (.iload_n 2, 1) := by decide +kernel
theorem dX7_missing_98 : decode cX7_missing 98 = .ok (.i2l, 1) := by decide +kernel
theorem dX7_missing_99 : decode cX7_missing 99 = .ok (.lmul, 1) := by decide +kernel
theorem dX7_missing_100 : decode cX7_missing 100 = .ok (.lstore 6, 2) := by decide +kernel
theorem dX7_missing_102 : decode cX7_missing 102 = .ok (.iinc 8 (-1), 3) := by decide +kernel
theorem dX7_missing_105 : decode cX7_missing 105 = .ok (.goto (-15), 3) := by decide +kernel
theorem dX7_missing_108 : decode cX7_missing 108 = .ok (.aload_n 0, 1) := by decide +kernel
theorem dX7_missing_109 : decode cX7_missing 109 = .ok (.getfield 127, 3) := by decide +kernel
theorem dX7_missing_112 : decode cX7_missing 112 = .ok (.istore 8, 2) := by decide +kernel
theorem dX7_missing_114 : decode cX7_missing 114 = .ok (.iload 8, 2) := by decide +kernel
theorem dX7_missing_116 : decode cX7_missing 116 = .ok (.ifCond .eq 70, 3) := by decide +kernel
theorem dX7_missing_119 : decode cX7_missing 119 = .ok (.aload_n 0, 1) := by decide +kernel
theorem dX7_missing_120 : decode cX7_missing 120 = .ok (.iload 8, 2) := by decide +kernel
theorem dX7_missing_122 : decode cX7_missing 122 = .ok (.invokevirtual 133, 3) := by decide +kernel
theorem dX7_missing_125 : decode cX7_missing 125 = .ok (.iload_n 1, 1) := by decide +kernel
theorem dX7_missing_126 : decode cX7_missing 126 = .ok (.invokestatic 104, 3) := by decide +kernel
theorem dX7_missing_129 : decode cX7_missing 129 = .ok (.ifCond .ne 6, 3) := by decide +kernel
theorem dX7_missing_132 : decode cX7_missing 132 = .ok (.goto 40, 3) := by decide +kernel
theorem dX7_missing_135 : decode cX7_missing 135 = .ok (.lconst 1, 1) := by decide +kernel
theorem dX7_missing_136 : decode cX7_missing 136 = .ok (.lstore 9, 2) := by decide +kernel
theorem dX7_missing_138 : decode cX7_missing 138 = .ok (.iload 8, 2) := by decide +kernel
theorem dX7_missing_140 : decode cX7_missing 140 = .ok (.invokestatic 100, 3) := by decide +kernel
theorem dX7_missing_143 : decode cX7_missing 143 = .ok (.istore 11, 2) := by decide +kernel
theorem dX7_missing_145 : decode cX7_missing 145 = .ok (.iload 11, 2) := by decide +kernel
theorem dX7_missing_147 : decode cX7_missing 147 = .ok (.ifCond .le 18, 3) := by decide +kernel
theorem dX7_missing_150 : decode cX7_missing 150 = .ok (.lload 9, 2) := by decide +kernel
theorem dX7_missing_152 : decode cX7_missing 152 = .ok (.iload_n 2, 1) := by decide +kernel
theorem dX7_missing_153 : decode cX7_missing 153 = .ok (.iconst 1, 1) := by decide +kernel
theorem dX7_missing_154 : decode cX7_missing 154 = .ok (.isub, 1) := by decide +kernel
theorem dX7_missing_155 : decode cX7_missing 155 = .ok (.i2l, 1) := by decide +kernel
theorem dX7_missing_156 : decode cX7_missing 156 = .ok (.lmul, 1) := by decide +kernel
theorem dX7_missing_157 : decode cX7_missing 157 = .ok (.lstore 9, 2) := by decide +kernel
theorem dX7_missing_159 : decode cX7_missing 159 = .ok (.iinc 11 (-1), 3) := by decide +kernel
theorem dX7_missing_162 : decode cX7_missing 162 = .ok (.goto (-17), 3) := by decide +kernel
theorem dX7_missing_165 : decode cX7_missing 165 = .ok (.lload 4, 2) := by decide +kernel
theorem dX7_missing_167 : decode cX7_missing 167 = .ok (.lload 9, 2) := by decide +kernel
theorem dX7_missing_169 : decode cX7_missing 169 = .ok (.ladd, 1) := by decide +kernel
theorem dX7_missing_170 : decode cX7_missing 170 = .ok (.lstore 4, 2) := by decide +kernel
theorem dX7_missing_172 : decode cX7_missing 172 = .ok (.iload 8, 2) := by decide +kernel
theorem dX7_missing_174 : decode cX7_missing 174 = .ok (.iconst 1, 1) := by decide +kernel
theorem dX7_missing_175 : decode cX7_missing 175 = .ok (.isub, 1) := by decide +kernel
theorem dX7_missing_176 : decode cX7_missing 176 = .ok (.aload_n 0, 1) := by decide +kernel
theorem dX7_missing_177 : decode cX7_missing 177 = .ok (.getfield 127, 3) := by decide +kernel
theorem dX7_missing_180 : decode cX7_missing 180 = .ok (.iand, 1) := by decide +kernel
theorem dX7_missing_181 : decode cX7_missing 181 = .ok (.istore 8, 2) := by decide +kernel
theorem dX7_missing_183 : decode cX7_missing 183 = .ok (.goto (-69), 3) := by decide +kernel
theorem dX7_missing_186 : decode cX7_missing 186 = .ok (.lload 4, 2) := by decide +kernel
theorem dX7_missing_188 : decode cX7_missing 188 = .ok (.lload 6, 2) := by decide +kernel
theorem dX7_missing_190 : decode cX7_missing 190 = .ok (.iload_n 3, 1) := by decide +kernel
theorem dX7_missing_191 : decode cX7_missing 191 = .ok (.invokestatic 284, 3) := by decide +kernel
theorem dX7_missing_194 : decode cX7_missing 194 = .ok (.lreturn, 1) := by decide +kernel
theorem dX7_mean_0 : decode cX7_mean 0 = .ok (.iload_n 1, 1) := by decide +kernel
theorem dX7_mean_1 : decode cX7_mean 1 = .ok (.iconst 0, 1) := by decide +kernel
theorem dX7_mean_2 : decode cX7_mean 2 = .ok (.iconst 2, 1) := by decide +kernel
theorem dX7_mean_3 : decode cX7_mean 3 = .ok (.invokestatic 96, 3) := by decide +kernel
theorem dX7_mean_6 : decode cX7_mean 6 = .ok (.ifCond .eq 12, 3) := by decide +kernel
theorem dX7_mean_9 : decode cX7_mean 9 = .ok (.iload_n 2, 1) := by decide +kernel
theorem dX7_mean_10 : decode cX7_mean 10 = .ok (.iconst 0, 1) := by decide +kernel
theorem dX7_mean_11 : decode cX7_mean 11 = .ok (.iconst 1, 1) := by decide +kernel
theorem dX7_mean_12 : decode cX7_mean 12 = .ok (.invokestatic 96, 3) := by decide +kernel
theorem dX7_mean_15 : decode cX7_mean 15 = .ok (.ifCond .ne 15, 3) := by decide +kernel
theorem dX7_mean_18 : decode cX7_mean 18 = .ok (.ldc2_w 282, 3) := by decide +kernel
theorem dX7_mean_21 : decode cX7_mean 21 = .ok (.aload_n 0, 1) := by decide +kernel
theorem dX7_mean_22 : decode cX7_mean 22 = .ok (.bipush (-2), 2) := by decide +kernel
theorem dX7_mean_24 : decode cX7_mean 24 = .ok (.invokevirtual 136, 3) := by decide +kernel
theorem dX7_mean_27 : decode cX7_mean 27 = .ok (.i2l, 1) := by decide +kernel
theorem dX7_mean_28 : decode cX7_mean 28 = .ok (.lsub, 1) := by decide +kernel
theorem dX7_mean_29 : decode cX7_mean 29 = .ok (.lreturn, 1) := by decide +kernel
theorem dX7_mean_30 : decode cX7_mean 30 = .ok (.aload_n 0, 1) := by decide +kernel
theorem dX7_mean_31 : decode cX7_mean 31 = .ok (.iload_n 1, 1) := by decide +kernel
theorem dX7_mean_32 : decode cX7_mean 32 = .ok (.invokevirtual 271, 3) := by decide +kernel
theorem dX7_mean_35 : decode cX7_mean 35 = .ok (.iconst 0, 1) := by decide +kernel
theorem dX7_mean_36 : decode cX7_mean 36 = .ok (.istore_n 3, 1) := by decide +kernel
theorem dX7_mean_37 : decode cX7_mean 37 = .ok (.iconst 0, 1) := by decide +kernel
theorem dX7_mean_38 : decode cX7_mean 38 = .ok (.istore 4, 2) := by decide +kernel
theorem dX7_mean_40 : decode cX7_mean 40 = .ok (.iload 4, 2) := by decide +kernel
theorem dX7_mean_42 : decode cX7_mean 42 = .ok (.iconst 5, 1) := by decide +kernel
theorem dX7_mean_43 : decode cX7_mean 43 = .ok (.if_icmp .ge 27, 3) := by decide +kernel
theorem dX7_mean_46 : decode cX7_mean 46 = .ok (.iload_n 3, 1) := by decide +kernel
theorem dX7_mean_47 : decode cX7_mean 47 = .ok (.aload_n 0, 1) := by decide +kernel
theorem dX7_mean_48 : decode cX7_mean 48 = .ok (.getfield 80, 3) := by decide +kernel
theorem dX7_mean_51 : decode cX7_mean 51 = .ok (.iload 4, 2) := by decide +kernel
theorem dX7_mean_53 : decode cX7_mean 53 = .ok (.iaload, 1) := by decide +kernel
theorem dX7_mean_54 : decode cX7_mean 54 = .ok (.ifCond .le 7, 3) := by decide +kernel
theorem dX7_mean_57 : decode cX7_mean 57 = .ok (.iconst 1, 1) := by decide +kernel
theorem dX7_mean_58 : decode cX7_mean 58 = .ok (.goto 4, 3) := by decide +kernel
theorem dX7_mean_61 : decode cX7_mean 61 = .ok (.iconst 0, 1) := by decide +kernel
theorem dX7_mean_62 : decode cX7_mean 62 = .ok (.iadd, 1) := by decide +kernel
theorem dX7_mean_63 : decode cX7_mean 63 = .ok (.istore_n 3, 1) := by decide +kernel
theorem dX7_mean_64 : decode cX7_mean 64 = .ok (.iinc 4 1, 3) := by decide +kernel
theorem dX7_mean_67 : decode cX7_mean 67 = .ok (.goto (-27), 3) := by decide +kernel
theorem dX7_mean_70 : decode cX7_mean 70 = .ok (.aload_n 0, 1) := by decide +kernel
theorem dX7_mean_71 : decode cX7_mean 71 = .ok (.aload_n 0, 1) := by decide +kernel
theorem dX7_mean_72 : decode cX7_mean 72 = .ok (.getfield 83, 3) := by decide +kernel
theorem dX7_mean_75 : decode cX7_mean 75 = .ok (.invokevirtual 249, 3) := by decide +kernel
theorem dX7_mean_78 : decode cX7_mean 78 = .ok (.i2l, 1) := by decide +kernel
theorem dX7_mean_79 : decode cX7_mean 79 = .ok (.iconst 1, 1) := by decide +kernel
theorem dX7_mean_80 : decode cX7_mean 80 = .ok (.iload_n 3, 1) := by decide +kernel
theorem dX7_mean_81 : decode cX7_mean 81 = .ok (.invokestatic 211, 3) := by decide +kernel
theorem dX7_mean_84 : decode cX7_mean 84 = .ok (.i2l, 1) := by decide +kernel
theorem dX7_mean_85 : decode cX7_mean 85 = .ok (.iload_n 2, 1) := by decide +kernel
theorem dX7_mean_86 : decode cX7_mean 86 = .ok (.invokestatic 284, 3) := by decide +kernel
theorem dX7_mean_89 : decode cX7_mean 89 = .ok (.lreturn, 1) := by decide +kernel
theorem dX7_printed_0 : decode cX7_printed 0 = .ok (.iload_n 1, 1) := by decide +kernel
theorem dX7_printed_1 : decode cX7_printed 1 = .ok (.iconst (-1), 1) := by decide +kernel
theorem dX7_printed_2 : decode cX7_printed 2 = .ok (.if_icmp .ge 10, 3) := by decide +kernel
theorem dX7_printed_5 : decode cX7_printed 5 = .ok (.aload_n 0, 1) := by decide +kernel
theorem dX7_printed_6 : decode cX7_printed 6 = .ok (.bipush (-4), 2) := by decide +kernel
theorem dX7_printed_8 : decode cX7_printed 8 = .ok (.invokevirtual 136, 3) := by decide +kernel
theorem dX7_printed_11 : decode cX7_printed 11 = .ok (.ireturn, 1) := by decide +kernel
theorem dX7_printed_12 : decode cX7_printed 12 = .ok (.aload_n 0, 1) := by decide +kernel
theorem dX7_printed_13 : decode cX7_printed 13 = .ok (.invokevirtual 219, 3) := by decide +kernel
theorem dX7_printed_16 : decode cX7_printed 16 = .ok (.istore_n 2, 1) := by decide +kernel
theorem dX7_printed_17 : decode cX7_printed 17 = .ok (.new 288, 3) := by decide +kernel
theorem dX7_printed_20 : decode cX7_printed 20 = .ok (.dup, 1) := by decide +kernel
theorem dX7_printed_21 : decode cX7_printed 21 = .ok (.invokespecial 290, 3) := by decide +kernel
theorem dX7_printed_24 : decode cX7_printed 24 = .ok (.astore_n 3, 1) := by decide +kernel
theorem dX7_printed_25 : decode cX7_printed 25 = .ok (.iconst 0, 1) := by decide +kernel
theorem dX7_printed_26 : decode cX7_printed 26 = .ok (.istore 4, 2) := by decide +kernel
theorem dX7_printed_28 : decode cX7_printed 28 = .ok (.iload 4, 2) := by decide +kernel
theorem dX7_printed_30 : decode cX7_printed 30 = .ok (.aload_n 0, 1) := by decide +kernel
theorem dX7_printed_31 : decode cX7_printed 31 = .ok (.getfield 93, 3) := by decide +kernel
theorem dX7_printed_34 : decode cX7_printed 34 = .ok (.if_icmp .ge 111, 3) := by decide +kernel
theorem dX7_printed_37 : decode cX7_printed 37 = .ok (.iload_n 2, 1) := by decide +kernel
theorem dX7_printed_38 : decode cX7_printed 38 = .ok (.iload 4, 2) := by decide +kernel
theorem dX7_printed_40 : decode cX7_printed 40 = .ok (.invokestatic 104, 3) := by decide +kernel
theorem dX7_printed_43 : decode cX7_printed 43 = .ok (.ifCond .ne 6, 3) := by decide +kernel
theorem dX7_printed_46 : decode cX7_printed 46 = .ok (.goto 93, 3) := by decide +kernel
theorem dX7_printed_49 : decode cX7_printed 49 = .ok (.aload_n 3, 1) := by decide +kernel
theorem dX7_printed_50 : decode cX7_printed 50 = .ok (.invokevirtual 291, 3) := by decide +kernel
theorem dX7_printed_53 : decode cX7_printed 53 = .ok (.ifCond .le 10, 3) := by decide +kernel
theorem dX7_printed_56 : decode cX7_printed 56 = .ok (.aload_n 3, 1) := by decide +kernel
theorem dX7_printed_57 : decode cX7_printed 57 = .ok (.bipush 59, 2) := by decide +kernel
theorem dX7_printed_59 : decode cX7_printed 59 = .ok (.invokevirtual 292, 3) := by decide +kernel
theorem dX7_printed_62 : decode cX7_printed 62 = .ok (.pop, 1) := by decide +kernel
theorem dX7_printed_63 : decode cX7_printed 63 = .ok (.aload_n 3, 1) := by decide +kernel
theorem dX7_printed_64 : decode cX7_printed 64 = .ok (.aload_n 0, 1) := by decide +kernel
theorem dX7_printed_65 : decode cX7_printed 65 = .ok (.getfield 19, 3) := by decide +kernel
theorem dX7_printed_68 : decode cX7_printed 68 = .ok (.iload 4, 2) := by decide +kernel
theorem dX7_printed_70 : decode cX7_printed 70 = .ok (.iaload, 1) := by decide +kernel
theorem dX7_printed_71 : decode cX7_printed 71 = .ok (.invokevirtual 296, 3) := by decide +kernel
theorem dX7_printed_74 : decode cX7_printed 74 = .ok (.bipush 58, 2) := by decide +kernel
theorem dX7_printed_76 : decode cX7_printed 76 = .ok (.invokevirtual 292, 3) := by decide +kernel
theorem dX7_printed_79 : decode cX7_printed 79 = .ok (.pop, 1) := by decide +kernel
theorem dX7_printed_80 : decode cX7_printed 80 = .ok (.iconst 0, 1) := by decide +kernel
theorem dX7_printed_81 : decode cX7_printed 81 = .ok (.istore 5, 2) := by decide +kernel
theorem dX7_printed_83 : decode cX7_printed 83 = .ok (.iload 5, 2) := by decide +kernel
theorem dX7_printed_85 : decode cX7_printed 85 = .ok (.bipush 6, 2) := by decide +kernel
theorem dX7_printed_87 : decode cX7_printed 87 = .ok (.if_icmp .ge 35, 3) := by decide +kernel
theorem dX7_printed_90 : decode cX7_printed 90 = .ok (.aload_n 0, 1) := by decide +kernel
theorem dX7_printed_91 : decode cX7_printed 91 = .ok (.getfield 22, 3) := by decide +kernel
theorem dX7_printed_94 : decode cX7_printed 94 = .ok (.iload 4, 2) := by decide +kernel
theorem dX7_printed_96 : decode cX7_printed 96 = .ok (.iaload, 1) := by decide +kernel
theorem dX7_printed_97 : decode cX7_printed 97 = .ok (.iload 5, 2) := by decide +kernel
theorem dX7_printed_99 : decode cX7_printed 99 = .ok (.invokestatic 104, 3) := by decide +kernel
theorem dX7_printed_102 : decode cX7_printed 102 = .ok (.ifCond .eq 14, 3) := by decide +kernel
theorem dX7_printed_105 : decode cX7_printed 105 = .ok (.aload_n 3, 1) := by decide +kernel
theorem dX7_printed_106 : decode cX7_printed 106 = .ok (.bipush 97, 2) := by decide +kernel
theorem dX7_printed_108 : decode cX7_printed 108 = .ok (.iload 5, 2) := by decide +kernel
theorem dX7_printed_110 : decode cX7_printed 110 = .ok (.iadd, 1) := by decide +kernel
theorem dX7_printed_111 : decode cX7_printed 111 = .ok (.i2c, 1) := by decide +kernel
theorem dX7_printed_112 : decode cX7_printed 112 = .ok (.invokevirtual 292, 3) := by decide +kernel
theorem dX7_printed_115 : decode cX7_printed 115 = .ok (.pop, 1) := by decide +kernel
theorem dX7_printed_116 : decode cX7_printed 116 = .ok (.iinc 5 1, 3) := by decide +kernel
theorem dX7_printed_119 : decode cX7_printed 119 = .ok (.goto (-36), 3) := by decide +kernel
theorem dX7_printed_122 : decode cX7_printed 122 = .ok (.aload_n 3, 1) := by decide +kernel
theorem dX7_printed_123 : decode cX7_printed 123 = .ok (.bipush 61, 2) := by decide +kernel
theorem dX7_printed_125 : decode cX7_printed 125 = .ok (.invokevirtual 292, 3) := by decide +kernel
theorem dX7_printed_128 : decode cX7_printed 128 = .ok (.aload_n 0, 1) := by decide +kernel
theorem dX7_printed_129 : decode cX7_printed 129 = .ok (.getfield 25, 3) := by decide +kernel
theorem dX7_printed_132 : decode cX7_printed 132 = .ok (.iload 4, 2) := by decide +kernel
theorem dX7_printed_134 : decode cX7_printed 134 = .ok (.iaload, 1) := by decide +kernel
theorem dX7_printed_135 : decode cX7_printed 135 = .ok (.invokevirtual 296, 3) := by decide +kernel
theorem dX7_printed_138 : decode cX7_printed 138 = .ok (.pop, 1) := by decide +kernel
theorem dX7_printed_139 : decode cX7_printed 139 = .ok (.iinc 4 1, 3) := by decide +kernel
theorem dX7_printed_142 : decode cX7_printed 142 = .ok (.goto (-114), 3) := by decide +kernel
theorem dX7_printed_145 : decode cX7_printed 145 = .ok (.aload_n 3, 1) := by decide +kernel
theorem dX7_printed_146 : decode cX7_printed 146 = .ok (.bipush 47, 2) := by decide +kernel
theorem dX7_printed_148 : decode cX7_printed 148 = .ok (.invokevirtual 292, 3) := by decide +kernel
theorem dX7_printed_151 : decode cX7_printed 151 = .ok (.aload_n 0, 1) := by decide +kernel
theorem dX7_printed_152 : decode cX7_printed 152 = .ok (.getfield 31, 3) := by decide +kernel
theorem dX7_printed_155 : decode cX7_printed 155 = .ok (.iload_n 2, 1) := by decide +kernel
theorem dX7_printed_156 : decode cX7_printed 156 = .ok (.iaload, 1) := by decide +kernel
theorem dX7_printed_157 : decode cX7_printed 157 = .ok (.invokevirtual 296, 3) := by decide +kernel
theorem dX7_printed_160 : decode cX7_printed 160 = .ok (.pop, 1) := by decide +kernel
theorem dX7_printed_161 : decode cX7_printed 161 = .ok (.iload_n 1, 1) := by decide +kernel
theorem dX7_printed_162 : decode cX7_printed 162 = .ok (.ifCond .ge 10, 3) := by decide +kernel
theorem dX7_printed_165 : decode cX7_printed 165 = .ok (.aload_n 3, 1) := by decide +kernel
theorem dX7_printed_166 : decode cX7_printed 166 = .ok (.invokevirtual 291, 3) := by decide +kernel
theorem dX7_printed_169 : decode cX7_printed 169 = .ok (.goto 21, 3) := by decide +kernel
theorem dX7_printed_172 : decode cX7_printed 172 = .ok (.iload_n 1, 1) := by decide +kernel
theorem dX7_printed_173 : decode cX7_printed 173 = .ok (.aload_n 3, 1) := by decide +kernel
theorem dX7_printed_174 : decode cX7_printed 174 = .ok (.invokevirtual 291, 3) := by decide +kernel
theorem dX7_printed_177 : decode cX7_printed 177 = .ok (.if_icmp .ge 11, 3) := by decide +kernel
theorem dX7_printed_180 : decode cX7_printed 180 = .ok (.aload_n 3, 1) := by decide +kernel
theorem dX7_printed_181 : decode cX7_printed 181 = .ok (.iload_n 1, 1) := by decide +kernel
theorem dX7_printed_182 : decode cX7_printed 182 = .ok (.invokevirtual 299, 3) := by decide +kernel
theorem dX7_printed_185 : decode cX7_printed 185 = .ok (.goto 5, 3) := by decide +kernel
theorem dX7_printed_188 : decode cX7_printed 188 = .ok (.bipush (-9), 2) := by decide +kernel
theorem dX7_printed_190 : decode cX7_printed 190 = .ok (.ireturn, 1) := by decide +kernel
theorem dX7_otherwise_0 : decode cX7_otherwise 0 = .ok (.iconst 0, 1) := by decide +kernel
theorem dX7_otherwise_1 : decode cX7_otherwise 1 = .ok (.istore_n 1, 1) := by decide +kernel
theorem dX7_otherwise_2 : decode cX7_otherwise 2 = .ok (.iload_n 1, 1) := by decide +kernel
theorem dX7_otherwise_3 : decode cX7_otherwise 3 = .ok (.aload_n 0, 1) := by decide +kernel
theorem dX7_otherwise_4 : decode cX7_otherwise 4 = .ok (.getfield 300, 3) := by decide +kernel
theorem dX7_otherwise_7 : decode cX7_otherwise 7 = .ok (.if_icmp .ge 26, 3) := by decide +kernel
theorem dX7_otherwise_10 : decode cX7_otherwise 10 = .ok (.aload_n 0, 1) := by decide +kernel
theorem dX7_otherwise_11 : decode cX7_otherwise 11 = .ok (.getfield 83, 3) := by decide +kernel
theorem dX7_otherwise_14 : decode cX7_otherwise 14 = .ok (.iload_n 1, 1) := by decide +kernel
theorem dX7_otherwise_15 : decode cX7_otherwise 15 = .ok (.iaload, 1) := by decide +kernel
theorem dX7_otherwise_16 : decode cX7_otherwise 16 = .ok (.aload_n 0, 1) := by decide +kernel
theorem dX7_otherwise_17 : decode cX7_otherwise 17 = .ok (.getfield 86, 3) := by decide +kernel
theorem dX7_otherwise_20 : decode cX7_otherwise 20 = .ok (.iload_n 1, 1) := by decide +kernel
theorem dX7_otherwise_21 : decode cX7_otherwise 21 = .ok (.iaload, 1) := by decide +kernel
theorem dX7_otherwise_22 : decode cX7_otherwise 22 = .ok (.if_icmp .eq 5, 3) := by decide +kernel
theorem dX7_otherwise_25 : decode cX7_otherwise 25 = .ok (.iload_n 1, 1) := by decide +kernel
theorem dX7_otherwise_26 : decode cX7_otherwise 26 = .ok (.ireturn, 1) := by decide +kernel
theorem dX7_otherwise_27 : decode cX7_otherwise 27 = .ok (.iinc 1 1, 3) := by decide +kernel
theorem dX7_otherwise_30 : decode cX7_otherwise 30 = .ok (.goto (-28), 3) := by decide +kernel
theorem dX7_otherwise_33 : decode cX7_otherwise 33 = .ok (.bipush (-9), 2) := by decide +kernel
theorem dX7_otherwise_35 : decode cX7_otherwise 35 = .ok (.ireturn, 1) := by decide +kernel
theorem dX7_whatIs_0 : decode cX7_whatIs 0 = .ok (.iload_n 1, 1) := by decide +kernel
theorem dX7_whatIs_1 : decode cX7_whatIs 1 = .ok (.iconst 0, 1) := by decide +kernel
theorem dX7_whatIs_2 : decode cX7_whatIs 2 = .ok (.iconst 4, 1) := by decide +kernel
theorem dX7_whatIs_3 : decode cX7_whatIs 3 = .ok (.invokestatic 96, 3) := by decide +kernel
theorem dX7_whatIs_6 : decode cX7_whatIs 6 = .ok (.ifCond .ne 9, 3) := by decide +kernel
theorem dX7_whatIs_9 : decode cX7_whatIs 9 = .ok (.aload_n 0, 1) := by decide +kernel
theorem dX7_whatIs_10 : decode cX7_whatIs 10 = .ok (.iconst (-1), 1) := by decide +kernel
theorem dX7_whatIs_11 : decode cX7_whatIs 11 = .ok (.invokevirtual 136, 3) := by decide +kernel
theorem dX7_whatIs_14 : decode cX7_whatIs 14 = .ok (.ireturn, 1) := by decide +kernel
theorem dX7_whatIs_15 : decode cX7_whatIs 15 = .ok (.iload_n 2, 1) := by decide +kernel
theorem dX7_whatIs_16 : decode cX7_whatIs 16 = .ok (.iconst 0, 1) := by decide +kernel
theorem dX7_whatIs_17 : decode cX7_whatIs 17 = .ok (.iconst 1, 1) := by decide +kernel
theorem dX7_whatIs_18 : decode cX7_whatIs 18 = .ok (.invokestatic 96, 3) := by decide +kernel
theorem dX7_whatIs_21 : decode cX7_whatIs 21 = .ok (.ifCond .ne 10, 3) := by decide +kernel
theorem dX7_whatIs_24 : decode cX7_whatIs 24 = .ok (.aload_n 0, 1) := by decide +kernel
theorem dX7_whatIs_25 : decode cX7_whatIs 25 = .ok (.bipush (-2), 2) := by decide +kernel
theorem dX7_whatIs_27 : decode cX7_whatIs 27 = .ok (.invokevirtual 136, 3) := by decide +kernel
theorem dX7_whatIs_30 : decode cX7_whatIs 30 = .ok (.ireturn, 1) := by decide +kernel
theorem dX7_whatIs_31 : decode cX7_whatIs 31 = .ok (.aload_n 0, 1) := by decide +kernel
theorem dX7_whatIs_32 : decode cX7_whatIs 32 = .ok (.getfield 13, 3) := by decide +kernel
theorem dX7_whatIs_35 : decode cX7_whatIs 35 = .ok (.iload_n 1, 1) := by decide +kernel
theorem dX7_whatIs_36 : decode cX7_whatIs 36 = .ok (.iaload, 1) := by decide +kernel
theorem dX7_whatIs_37 : decode cX7_whatIs 37 = .ok (.istore_n 3, 1) := by decide +kernel
theorem dX7_whatIs_38 : decode cX7_whatIs 38 = .ok (.aload_n 0, 1) := by decide +kernel
theorem dX7_whatIs_39 : decode cX7_whatIs 39 = .ok (.getfield 16, 3) := by decide +kernel
theorem dX7_whatIs_42 : decode cX7_whatIs 42 = .ok (.iload_n 1, 1) := by decide +kernel
theorem dX7_whatIs_43 : decode cX7_whatIs 43 = .ok (.iaload, 1) := by decide +kernel
theorem dX7_whatIs_44 : decode cX7_whatIs 44 = .ok (.istore 4, 2) := by decide +kernel
theorem dX7_whatIs_46 : decode cX7_whatIs 46 = .ok (.iconst 0, 1) := by decide +kernel
theorem dX7_whatIs_47 : decode cX7_whatIs 47 = .ok (.istore 5, 2) := by decide +kernel
theorem dX7_whatIs_49 : decode cX7_whatIs 49 = .ok (.iconst 0, 1) := by decide +kernel
theorem dX7_whatIs_50 : decode cX7_whatIs 50 = .ok (.istore 6, 2) := by decide +kernel
theorem dX7_whatIs_52 : decode cX7_whatIs 52 = .ok (.iload 6, 2) := by decide +kernel
theorem dX7_whatIs_54 : decode cX7_whatIs 54 = .ok (.iload_n 2, 1) := by decide +kernel
theorem dX7_whatIs_55 : decode cX7_whatIs 55 = .ok (.ifCond .ne 8, 3) := by decide +kernel
theorem dX7_whatIs_58 : decode cX7_whatIs 58 = .ok (.bipush 6, 2) := by decide +kernel
theorem dX7_whatIs_60 : decode cX7_whatIs 60 = .ok (.goto 5, 3) := by decide +kernel
theorem dX7_whatIs_63 : decode cX7_whatIs 63 = .ok (.bipush 10, 2) := by decide +kernel
theorem dX7_whatIs_65 : decode cX7_whatIs 65 = .ok (.if_icmp .ge 61, 3) := by decide +kernel
theorem dX7_whatIs_68 : decode cX7_whatIs 68 = .ok (.iload_n 2, 1) := by decide +kernel
theorem dX7_whatIs_69 : decode cX7_whatIs 69 = .ok (.ifCond .ne 14, 3) := by decide +kernel
theorem dX7_whatIs_72 : decode cX7_whatIs 72 = .ok (.aload_n 0, 1) := by decide +kernel
theorem dX7_whatIs_73 : decode cX7_whatIs 73 = .ok (.getfield 13, 3) := by decide +kernel
theorem dX7_whatIs_76 : decode cX7_whatIs 76 = .ok (.iload_n 1, 1) := by decide +kernel
theorem dX7_whatIs_77 : decode cX7_whatIs 77 = .ok (.iload 6, 2) := by decide +kernel
theorem dX7_whatIs_79 : decode cX7_whatIs 79 = .ok (.iastore, 1) := by decide +kernel
theorem dX7_whatIs_80 : decode cX7_whatIs 80 = .ok (.goto 11, 3) := by decide +kernel
theorem dX7_whatIs_83 : decode cX7_whatIs 83 = .ok (.aload_n 0, 1) := by decide +kernel
theorem dX7_whatIs_84 : decode cX7_whatIs 84 = .ok (.getfield 16, 3) := by decide +kernel
theorem dX7_whatIs_87 : decode cX7_whatIs 87 = .ok (.iload_n 1, 1) := by decide +kernel
theorem dX7_whatIs_88 : decode cX7_whatIs 88 = .ok (.iload 6, 2) := by decide +kernel
theorem dX7_whatIs_90 : decode cX7_whatIs 90 = .ok (.iastore, 1) := by decide +kernel
theorem dX7_whatIs_91 : decode cX7_whatIs 91 = .ok (.aload_n 0, 1) := by decide +kernel
theorem dX7_whatIs_92 : decode cX7_whatIs 92 = .ok (.iconst 1, 1) := by decide +kernel
theorem dX7_whatIs_93 : decode cX7_whatIs 93 = .ok (.putfield 89, 3) := by decide +kernel
theorem dX7_whatIs_96 : decode cX7_whatIs 96 = .ok (.aload_n 0, 1) := by decide +kernel
theorem dX7_whatIs_97 : decode cX7_whatIs 97 = .ok (.invokevirtual 256, 3) := by decide +kernel
theorem dX7_whatIs_100 : decode cX7_whatIs 100 = .ok (.iload 5, 2) := by decide +kernel
theorem dX7_whatIs_102 : decode cX7_whatIs 102 = .ok (.aload_n 0, 1) := by decide +kernel
theorem dX7_whatIs_103 : decode cX7_whatIs 103 = .ok (.invokevirtual 303, 3) := by decide +kernel
theorem dX7_whatIs_106 : decode cX7_whatIs 106 = .ok (.ifCond .ge 10, 3) := by decide +kernel
theorem dX7_whatIs_109 : decode cX7_whatIs 109 = .ok (.iconst 1, 1) := by decide +kernel
theorem dX7_whatIs_110 : decode cX7_whatIs 110 = .ok (.iload 6, 2) := by decide +kernel
theorem dX7_whatIs_112 : decode cX7_whatIs 112 = .ok (.ishl, 1) := by decide +kernel
theorem dX7_whatIs_113 : decode cX7_whatIs 113 = .ok (.goto 4, 3) := by decide +kernel
theorem dX7_whatIs_116 : decode cX7_whatIs 116 = .ok (.iconst 0, 1) := by decide +kernel
theorem dX7_whatIs_117 : decode cX7_whatIs 117 = .ok (.ior, 1) := by decide +kernel
theorem dX7_whatIs_118 : decode cX7_whatIs 118 = .ok (.istore 5, 2) := by decide +kernel
theorem dX7_whatIs_120 : decode cX7_whatIs 120 = .ok (.iinc 6 1, 3) := by decide +kernel
theorem dX7_whatIs_123 : decode cX7_whatIs 123 = .ok (.goto (-71), 3) := by decide +kernel
theorem dX7_whatIs_126 : decode cX7_whatIs 126 = .ok (.aload_n 0, 1) := by decide +kernel
theorem dX7_whatIs_127 : decode cX7_whatIs 127 = .ok (.getfield 13, 3) := by decide +kernel
theorem dX7_whatIs_130 : decode cX7_whatIs 130 = .ok (.iload_n 1, 1) := by decide +kernel
theorem dX7_whatIs_131 : decode cX7_whatIs 131 = .ok (.iload_n 3, 1) := by decide +kernel
theorem dX7_whatIs_132 : decode cX7_whatIs 132 = .ok (.iastore, 1) := by decide +kernel
theorem dX7_whatIs_133 : decode cX7_whatIs 133 = .ok (.aload_n 0, 1) := by decide +kernel
theorem dX7_whatIs_134 : decode cX7_whatIs 134 = .ok (.getfield 16, 3) := by decide +kernel
theorem dX7_whatIs_137 : decode cX7_whatIs 137 = .ok (.iload_n 1, 1) := by decide +kernel
theorem dX7_whatIs_138 : decode cX7_whatIs 138 = .ok (.iload 4, 2) := by decide +kernel
theorem dX7_whatIs_140 : decode cX7_whatIs 140 = .ok (.iastore, 1) := by decide +kernel
theorem dX7_whatIs_141 : decode cX7_whatIs 141 = .ok (.aload_n 0, 1) := by decide +kernel
theorem dX7_whatIs_142 : decode cX7_whatIs 142 = .ok (.iconst 1, 1) := by decide +kernel
theorem dX7_whatIs_143 : decode cX7_whatIs 143 = .ok (.putfield 89, 3) := by decide +kernel
theorem dX7_whatIs_146 : decode cX7_whatIs 146 = .ok (.iload 5, 2) := by decide +kernel
theorem dX7_whatIs_148 : decode cX7_whatIs 148 = .ok (.ireturn, 1) := by decide +kernel
theorem dX7_row_0 : decode cX7_row 0 = .ok (.iload_n 1, 1) := by decide +kernel
theorem dX7_row_1 : decode cX7_row 1 = .ok (.ifCond .ge 10, 3) := by decide +kernel
theorem dX7_row_4 : decode cX7_row 4 = .ok (.aload_n 0, 1) := by decide +kernel
theorem dX7_row_5 : decode cX7_row 5 = .ok (.bipush (-4), 2) := by decide +kernel
theorem dX7_row_7 : decode cX7_row 7 = .ok (.invokevirtual 136, 3) := by decide +kernel
theorem dX7_row_10 : decode cX7_row 10 = .ok (.ireturn, 1) := by decide +kernel
theorem dX7_row_11 : decode cX7_row 11 = .ok (.iload_n 1, 1) := by decide +kernel
theorem dX7_row_12 : decode cX7_row 12 = .ok (.bipush 99, 2) := by decide +kernel
theorem dX7_row_14 : decode cX7_row 14 = .ok (.if_icmp .gt 11, 3) := by decide +kernel
theorem dX7_row_17 : decode cX7_row 17 = .ok (.aload_n 0, 1) := by decide +kernel
theorem dX7_row_18 : decode cX7_row 18 = .ok (.getfield 300, 3) := by decide +kernel
theorem dX7_row_21 : decode cX7_row 21 = .ok (.iconst 5, 1) := by decide +kernel
theorem dX7_row_22 : decode cX7_row 22 = .ok (.if_icmp .ne 10, 3) := by decide +kernel
theorem dX7_row_25 : decode cX7_row 25 = .ok (.aload_n 0, 1) := by decide +kernel
theorem dX7_row_26 : decode cX7_row 26 = .ok (.bipush (-6), 2) := by decide +kernel
theorem dX7_row_28 : decode cX7_row 28 = .ok (.invokevirtual 136, 3) := by decide +kernel
theorem dX7_row_31 : decode cX7_row 31 = .ok (.ireturn, 1) := by decide +kernel
theorem dX7_row_32 : decode cX7_row 32 = .ok (.aload_n 0, 1) := by decide +kernel
theorem dX7_row_33 : decode cX7_row 33 = .ok (.getfield 86, 3) := by decide +kernel
theorem dX7_row_36 : decode cX7_row 36 = .ok (.aload_n 0, 1) := by decide +kernel
theorem dX7_row_37 : decode cX7_row 37 = .ok (.getfield 300, 3) := by decide +kernel
theorem dX7_row_40 : decode cX7_row 40 = .ok (.iload_n 1, 1) := by decide +kernel
theorem dX7_row_41 : decode cX7_row 41 = .ok (.iastore, 1) := by decide +kernel
theorem dX7_row_42 : decode cX7_row 42 = .ok (.aload_n 0, 1) := by decide +kernel
theorem dX7_row_43 : decode cX7_row 43 = .ok (.dup, 1) := by decide +kernel
theorem dX7_row_44 : decode cX7_row 44 = .ok (.getfield 300, 3) := by decide +kernel
theorem dX7_row_47 : decode cX7_row 47 = .ok (.iconst 1, 1) := by decide +kernel
theorem dX7_row_48 : decode cX7_row 48 = .ok (.iadd, 1) := by decide +kernel
theorem dX7_row_49 : decode cX7_row 49 = .ok (.putfield 300, 3) := by decide +kernel
theorem dX7_row_52 : decode cX7_row 52 = .ok (.aload_n 0, 1) := by decide +kernel
theorem dX7_row_53 : decode cX7_row 53 = .ok (.getfield 300, 3) := by decide +kernel
theorem dX7_row_56 : decode cX7_row 56 = .ok (.ireturn, 1) := by decide +kernel
theorem dX7_judge_0 : decode cX7_judge 0 = .ok (.iload_n 1, 1) := by decide +kernel
theorem dX7_judge_1 : decode cX7_judge 1 = .ok (.iconst 0, 1) := by decide +kernel
theorem dX7_judge_2 : decode cX7_judge 2 = .ok (.iconst 2, 1) := by decide +kernel
theorem dX7_judge_3 : decode cX7_judge 3 = .ok (.invokestatic 96, 3) := by decide +kernel
theorem dX7_judge_6 : decode cX7_judge 6 = .ok (.ifCond .ne 10, 3) := by decide +kernel
theorem dX7_judge_9 : decode cX7_judge 9 = .ok (.aload_n 0, 1) := by decide +kernel
theorem dX7_judge_10 : decode cX7_judge 10 = .ok (.bipush (-2), 2) := by decide +kernel
theorem dX7_judge_12 : decode cX7_judge 12 = .ok (.invokevirtual 136, 3) := by decide +kernel
theorem dX7_judge_15 : decode cX7_judge 15 = .ok (.ireturn, 1) := by decide +kernel
theorem dX7_judge_16 : decode cX7_judge 16 = .ok (.aload_n 0, 1) := by decide +kernel
theorem dX7_judge_17 : decode cX7_judge 17 = .ok (.iload_n 1, 1) := by decide +kernel
theorem dX7_judge_18 : decode cX7_judge 18 = .ok (.invokevirtual 271, 3) := by decide +kernel
theorem dX7_judge_21 : decode cX7_judge 21 = .ok (.aload_n 0, 1) := by decide +kernel
theorem dX7_judge_22 : decode cX7_judge 22 = .ok (.invokevirtual 303, 3) := by decide +kernel
theorem dX7_judge_25 : decode cX7_judge 25 = .ok (.istore_n 2, 1) := by decide +kernel
theorem dX7_judge_26 : decode cX7_judge 26 = .ok (.aload_n 0, 1) := by decide +kernel
theorem dX7_judge_27 : decode cX7_judge 27 = .ok (.iconst 0, 1) := by decide +kernel
theorem dX7_judge_28 : decode cX7_judge 28 = .ok (.putfield 300, 3) := by decide +kernel
theorem dX7_judge_31 : decode cX7_judge 31 = .ok (.iload_n 2, 1) := by decide +kernel
theorem dX7_judge_32 : decode cX7_judge 32 = .ok (.ireturn, 1) := by decide +kernel
theorem dX7_clear_0 : decode cX7_clear 0 = .ok (.aload_n 0, 1) := by decide +kernel
theorem dX7_clear_1 : decode cX7_clear 1 = .ok (.getfield 300, 3) := by decide +kernel
theorem dX7_clear_4 : decode cX7_clear 4 = .ok (.istore_n 1, 1) := by decide +kernel
theorem dX7_clear_5 : decode cX7_clear 5 = .ok (.aload_n 0, 1) := by decide +kernel
theorem dX7_clear_6 : decode cX7_clear 6 = .ok (.iconst 0, 1) := by decide +kernel
theorem dX7_clear_7 : decode cX7_clear 7 = .ok (.putfield 300, 3) := by decide +kernel
theorem dX7_clear_10 : decode cX7_clear 10 = .ok (.iload_n 1, 1) := by decide +kernel
theorem dX7_clear_11 : decode cX7_clear 11 = .ok (.ireturn, 1) := by decide +kernel
theorem dX7_draw_0 : decode cX7_draw 0 = .ok (.aload_n 0, 1) := by decide +kernel
theorem dX7_draw_1 : decode cX7_draw 1 = .ok (.aload_n 0, 1) := by decide +kernel
theorem dX7_draw_2 : decode cX7_draw 2 = .ok (.getfield 306, 3) := by decide +kernel
theorem dX7_draw_5 : decode cX7_draw 5 = .ok (.ldc_w 309, 3) := by decide +kernel
theorem dX7_draw_8 : decode cX7_draw 8 = .ok (.imul, 1) := by decide +kernel
theorem dX7_draw_9 : decode cX7_draw 9 = .ok (.ldc_w 310, 3) := by decide +kernel
theorem dX7_draw_12 : decode cX7_draw 12 = .ok (.iadd, 1) := by decide +kernel
theorem dX7_draw_13 : decode cX7_draw 13 = .ok (.putfield 306, 3) := by decide +kernel
theorem dX7_draw_16 : decode cX7_draw 16 = .ok (.aload_n 0, 1) := by decide +kernel
theorem dX7_draw_17 : decode cX7_draw 17 = .ok (.getfield 306, 3) := by decide +kernel
theorem dX7_draw_20 : decode cX7_draw 20 = .ok (.ldc_w 311, 3) := by decide +kernel
theorem dX7_draw_23 : decode cX7_draw 23 = .ok (.iand, 1) := by decide +kernel
theorem dX7_draw_24 : decode cX7_draw 24 = .ok (.sipush 256, 3) := by decide +kernel
theorem dX7_draw_27 : decode cX7_draw 27 = .ok (.idiv, 1) := by decide +kernel
theorem dX7_draw_28 : decode cX7_draw 28 = .ok (.iload_n 1, 1) := by decide +kernel
theorem dX7_draw_29 : decode cX7_draw 29 = .ok (.irem, 1) := by decide +kernel
theorem dX7_draw_30 : decode cX7_draw 30 = .ok (.ireturn, 1) := by decide +kernel
theorem dX7_lots_0 : decode cX7_lots 0 = .ok (.iload_n 1, 1) := by decide +kernel
theorem dX7_lots_1 : decode cX7_lots 1 = .ok (.iconst 1, 1) := by decide +kernel
theorem dX7_lots_2 : decode cX7_lots 2 = .ok (.if_icmp .ge 10, 3) := by decide +kernel
theorem dX7_lots_5 : decode cX7_lots 5 = .ok (.aload_n 0, 1) := by decide +kernel
theorem dX7_lots_6 : decode cX7_lots 6 = .ok (.bipush (-4), 2) := by decide +kernel
theorem dX7_lots_8 : decode cX7_lots 8 = .ok (.invokevirtual 136, 3) := by decide +kernel
theorem dX7_lots_11 : decode cX7_lots 11 = .ok (.ireturn, 1) := by decide +kernel
theorem dX7_lots_12 : decode cX7_lots 12 = .ok (.iload_n 1, 1) := by decide +kernel
theorem dX7_lots_13 : decode cX7_lots 13 = .ok (.bipush 20, 2) := by decide +kernel
theorem dX7_lots_15 : decode cX7_lots 15 = .ok (.if_icmp .le 10, 3) := by decide +kernel
theorem dX7_lots_18 : decode cX7_lots 18 = .ok (.aload_n 0, 1) := by decide +kernel
theorem dX7_lots_19 : decode cX7_lots 19 = .ok (.bipush (-6), 2) := by decide +kernel
theorem dX7_lots_21 : decode cX7_lots 21 = .ok (.invokevirtual 136, 3) := by decide +kernel
theorem dX7_lots_24 : decode cX7_lots 24 = .ok (.ireturn, 1) := by decide +kernel
theorem dX7_lots_25 : decode cX7_lots 25 = .ok (.iload_n 3, 1) := by decide +kernel
theorem dX7_lots_26 : decode cX7_lots 26 = .ok (.iconst 0, 1) := by decide +kernel
theorem dX7_lots_27 : decode cX7_lots 27 = .ok (.iconst 1, 1) := by decide +kernel
theorem dX7_lots_28 : decode cX7_lots 28 = .ok (.invokestatic 96, 3) := by decide +kernel
theorem dX7_lots_31 : decode cX7_lots 31 = .ok (.ifCond .ne 10, 3) := by decide +kernel
theorem dX7_lots_34 : decode cX7_lots 34 = .ok (.aload_n 0, 1) := by decide +kernel
theorem dX7_lots_35 : decode cX7_lots 35 = .ok (.bipush (-2), 2) := by decide +kernel
theorem dX7_lots_37 : decode cX7_lots 37 = .ok (.invokevirtual 136, 3) := by decide +kernel
theorem dX7_lots_40 : decode cX7_lots 40 = .ok (.ireturn, 1) := by decide +kernel
theorem dX7_lots_41 : decode cX7_lots 41 = .ok (.aload_n 0, 1) := by decide +kernel
theorem dX7_lots_42 : decode cX7_lots 42 = .ok (.invokevirtual 180, 3) := by decide +kernel
theorem dX7_lots_45 : decode cX7_lots 45 = .ok (.astore 4, 2) := by decide +kernel
theorem dX7_lots_47 : decode cX7_lots 47 = .ok (.aload_n 0, 1) := by decide +kernel
theorem dX7_lots_48 : decode cX7_lots 48 = .ok (.iload_n 2, 1) := by decide +kernel
theorem dX7_lots_49 : decode cX7_lots 49 = .ok (.putfield 306, 3) := by decide +kernel
theorem dX7_lots_52 : decode cX7_lots 52 = .ok (.iconst 0, 1) := by decide +kernel
theorem dX7_lots_53 : decode cX7_lots 53 = .ok (.istore 5, 2) := by decide +kernel
theorem dX7_lots_55 : decode cX7_lots 55 = .ok (.iconst 0, 1) := by decide +kernel
theorem dX7_lots_56 : decode cX7_lots 56 = .ok (.istore 6, 2) := by decide +kernel
theorem dX7_lots_58 : decode cX7_lots 58 = .ok (.iload 6, 2) := by decide +kernel
theorem dX7_lots_60 : decode cX7_lots 60 = .ok (.iload_n 1, 1) := by decide +kernel
theorem dX7_lots_61 : decode cX7_lots 61 = .ok (.if_icmp .ge 84, 3) := by decide +kernel
theorem dX7_lots_64 : decode cX7_lots 64 = .ok (.iconst 0, 1) := by decide +kernel
theorem dX7_lots_65 : decode cX7_lots 65 = .ok (.istore 7, 2) := by decide +kernel
theorem dX7_lots_67 : decode cX7_lots 67 = .ok (.iload 7, 2) := by decide +kernel
theorem dX7_lots_69 : decode cX7_lots 69 = .ok (.aload_n 0, 1) := by decide +kernel
theorem dX7_lots_70 : decode cX7_lots 70 = .ok (.getfield 93, 3) := by decide +kernel
theorem dX7_lots_73 : decode cX7_lots 73 = .ok (.if_icmp .ge 24, 3) := by decide +kernel
theorem dX7_lots_76 : decode cX7_lots 76 = .ok (.aload_n 0, 1) := by decide +kernel
theorem dX7_lots_77 : decode cX7_lots 77 = .ok (.getfield 25, 3) := by decide +kernel
theorem dX7_lots_80 : decode cX7_lots 80 = .ok (.iload 7, 2) := by decide +kernel
theorem dX7_lots_82 : decode cX7_lots 82 = .ok (.iconst 1, 1) := by decide +kernel
theorem dX7_lots_83 : decode cX7_lots 83 = .ok (.aload_n 0, 1) := by decide +kernel
theorem dX7_lots_84 : decode cX7_lots 84 = .ok (.bipush 99, 2) := by decide +kernel
theorem dX7_lots_86 : decode cX7_lots 86 = .ok (.invokevirtual 312, 3) := by decide +kernel
theorem dX7_lots_89 : decode cX7_lots 89 = .ok (.iadd, 1) := by decide +kernel
theorem dX7_lots_90 : decode cX7_lots 90 = .ok (.iastore, 1) := by decide +kernel
theorem dX7_lots_91 : decode cX7_lots 91 = .ok (.iinc 7 1, 3) := by decide +kernel
theorem dX7_lots_94 : decode cX7_lots 94 = .ok (.goto (-27), 3) := by decide +kernel
theorem dX7_lots_97 : decode cX7_lots 97 = .ok (.aload_n 0, 1) := by decide +kernel
theorem dX7_lots_98 : decode cX7_lots 98 = .ok (.iconst 1, 1) := by decide +kernel
theorem dX7_lots_99 : decode cX7_lots 99 = .ok (.putfield 89, 3) := by decide +kernel
theorem dX7_lots_102 : decode cX7_lots 102 = .ok (.iload_n 3, 1) := by decide +kernel
theorem dX7_lots_103 : decode cX7_lots 103 = .ok (.ifCond .ne 19, 3) := by decide +kernel
theorem dX7_lots_106 : decode cX7_lots 106 = .ok (.iload 5, 2) := by decide +kernel
theorem dX7_lots_108 : decode cX7_lots 108 = .ok (.aload_n 0, 1) := by decide +kernel
theorem dX7_lots_109 : decode cX7_lots 109 = .ok (.aload_n 0, 1) := by decide +kernel
theorem dX7_lots_110 : decode cX7_lots 110 = .ok (.getfield 127, 3) := by decide +kernel
theorem dX7_lots_113 : decode cX7_lots 113 = .ok (.invokevirtual 225, 3) := by decide +kernel
theorem dX7_lots_116 : decode cX7_lots 116 = .ok (.iadd, 1) := by decide +kernel
theorem dX7_lots_117 : decode cX7_lots 117 = .ok (.istore 5, 2) := by decide +kernel
theorem dX7_lots_119 : decode cX7_lots 119 = .ok (.goto 20, 3) := by decide +kernel
theorem dX7_lots_122 : decode cX7_lots 122 = .ok (.aload_n 0, 1) := by decide +kernel
theorem dX7_lots_123 : decode cX7_lots 123 = .ok (.invokevirtual 256, 3) := by decide +kernel
theorem dX7_lots_126 : decode cX7_lots 126 = .ok (.iload 5, 2) := by decide +kernel
theorem dX7_lots_128 : decode cX7_lots 128 = .ok (.aload_n 0, 1) := by decide +kernel
theorem dX7_lots_129 : decode cX7_lots 129 = .ok (.aload_n 0, 1) := by decide +kernel
theorem dX7_lots_130 : decode cX7_lots 130 = .ok (.getfield 83, 3) := by decide +kernel
theorem dX7_lots_133 : decode cX7_lots 133 = .ok (.invokevirtual 249, 3) := by decide +kernel
theorem dX7_lots_136 : decode cX7_lots 136 = .ok (.iadd, 1) := by decide +kernel
theorem dX7_lots_137 : decode cX7_lots 137 = .ok (.istore 5, 2) := by decide +kernel
theorem dX7_lots_139 : decode cX7_lots 139 = .ok (.iinc 6 1, 3) := by decide +kernel
theorem dX7_lots_142 : decode cX7_lots 142 = .ok (.goto (-84), 3) := by decide +kernel
theorem dX7_lots_145 : decode cX7_lots 145 = .ok (.aload_n 0, 1) := by decide +kernel
theorem dX7_lots_146 : decode cX7_lots 146 = .ok (.aload 4, 2) := by decide +kernel
theorem dX7_lots_148 : decode cX7_lots 148 = .ok (.invokevirtual 198, 3) := by decide +kernel
theorem dX7_lots_151 : decode cX7_lots 151 = .ok (.iload 5, 2) := by decide +kernel
theorem dX7_lots_153 : decode cX7_lots 153 = .ok (.ireturn, 1) := by decide +kernel
theorem dX7_image_0 : decode cX7_image 0 = .ok (.aload_n 0, 1) := by decide +kernel
theorem dX7_image_1 : decode cX7_image 1 = .ok (.aload_n 0, 1) := by decide +kernel
theorem dX7_image_2 : decode cX7_image 2 = .ok (.invokevirtual 180, 3) := by decide +kernel
theorem dX7_image_5 : decode cX7_image 5 = .ok (.putfield 315, 3) := by decide +kernel
theorem dX7_image_8 : decode cX7_image 8 = .ok (.aload_n 0, 1) := by decide +kernel
theorem dX7_image_9 : decode cX7_image 9 = .ok (.getfield 93, 3) := by decide +kernel
theorem dX7_image_12 : decode cX7_image 12 = .ok (.ireturn, 1) := by decide +kernel
theorem dX7_on_0 : decode cX7_on 0 = .ok (.aload_n 0, 1) := by decide +kernel
theorem dX7_on_1 : decode cX7_on 1 = .ok (.getfield 315, 3) := by decide +kernel
theorem dX7_on_4 : decode cX7_on 4 = .ok (.ifnonnull 10, 3) := by decide +kernel
theorem dX7_on_7 : decode cX7_on 7 = .ok (.aload_n 0, 1) := by decide +kernel
theorem dX7_on_8 : decode cX7_on 8 = .ok (.bipush (-3), 2) := by decide +kernel
theorem dX7_on_10 : decode cX7_on 10 = .ok (.invokevirtual 136, 3) := by decide +kernel
theorem dX7_on_13 : decode cX7_on 13 = .ok (.ireturn, 1) := by decide +kernel
theorem dX7_on_14 : decode cX7_on 14 = .ok (.aload_n 0, 1) := by decide +kernel
theorem dX7_on_15 : decode cX7_on 15 = .ok (.aload_n 0, 1) := by decide +kernel
theorem dX7_on_16 : decode cX7_on 16 = .ok (.getfield 315, 3) := by decide +kernel
theorem dX7_on_19 : decode cX7_on 19 = .ok (.invokevirtual 198, 3) := by decide +kernel
theorem dX7_on_22 : decode cX7_on 22 = .ok (.aload_n 0, 1) := by decide +kernel
theorem dX7_on_23 : decode cX7_on 23 = .ok (.getfield 93, 3) := by decide +kernel
theorem dX7_on_26 : decode cX7_on 26 = .ok (.ireturn, 1) := by decide +kernel
theorem dX7_count_0 : decode cX7_count 0 = .ok (.iload_n 1, 1) := by decide +kernel
theorem dX7_count_1 : decode cX7_count 1 = .ok (.tableswitch 121 0 6 #[43, 48, 53, 62, 102, 111, 116], 43) := by decide +kernel
theorem dX7_count_44 : decode cX7_count 44 = .ok (.aload_n 0, 1) := by decide +kernel
theorem dX7_count_45 : decode cX7_count 45 = .ok (.getfield 93, 3) := by decide +kernel
theorem dX7_count_48 : decode cX7_count 48 = .ok (.ireturn, 1) := by decide +kernel
theorem dX7_count_49 : decode cX7_count 49 = .ok (.aload_n 0, 1) := by decide +kernel
theorem dX7_count_50 : decode cX7_count 50 = .ok (.getfield 127, 3) := by decide +kernel
theorem dX7_count_53 : decode cX7_count 53 = .ok (.ireturn, 1) := by decide +kernel
theorem dX7_count_54 : decode cX7_count 54 = .ok (.aload_n 0, 1) := by decide +kernel
theorem dX7_count_55 : decode cX7_count 55 = .ok (.aload_n 0, 1) := by decide +kernel
theorem dX7_count_56 : decode cX7_count 56 = .ok (.getfield 9, 3) := by decide +kernel
theorem dX7_count_59 : decode cX7_count 59 = .ok (.invokevirtual 249, 3) := by decide +kernel
theorem dX7_count_62 : decode cX7_count 62 = .ok (.ireturn, 1) := by decide +kernel
theorem dX7_count_63 : decode cX7_count 63 = .ok (.aload_n 0, 1) := by decide +kernel
theorem dX7_count_64 : decode cX7_count 64 = .ok (.invokevirtual 256, 3) := by decide +kernel
theorem dX7_count_67 : decode cX7_count 67 = .ok (.iconst 0, 1) := by decide +kernel
theorem dX7_count_68 : decode cX7_count 68 = .ok (.istore_n 2, 1) := by decide +kernel
theorem dX7_count_69 : decode cX7_count 69 = .ok (.iconst 0, 1) := by decide +kernel
theorem dX7_count_70 : decode cX7_count 70 = .ok (.istore_n 3, 1) := by decide +kernel
theorem dX7_count_71 : decode cX7_count 71 = .ok (.iload_n 3, 1) := by decide +kernel
theorem dX7_count_72 : decode cX7_count 72 = .ok (.iconst 5, 1) := by decide +kernel
theorem dX7_count_73 : decode cX7_count 73 = .ok (.if_icmp .ge 28, 3) := by decide +kernel
theorem dX7_count_76 : decode cX7_count 76 = .ok (.iload_n 2, 1) := by decide +kernel
theorem dX7_count_77 : decode cX7_count 77 = .ok (.aload_n 0, 1) := by decide +kernel
theorem dX7_count_78 : decode cX7_count 78 = .ok (.getfield 80, 3) := by decide +kernel
theorem dX7_count_81 : decode cX7_count 81 = .ok (.iload_n 3, 1) := by decide +kernel
theorem dX7_count_82 : decode cX7_count 82 = .ok (.iaload, 1) := by decide +kernel
theorem dX7_count_83 : decode cX7_count 83 = .ok (.ifCond .le 9, 3) := by decide +kernel
theorem dX7_count_86 : decode cX7_count 86 = .ok (.iconst 1, 1) := by decide +kernel
theorem dX7_count_87 : decode cX7_count 87 = .ok (.iload_n 3, 1) := by decide +kernel
theorem dX7_count_88 : decode cX7_count 88 = .ok (.ishl, 1) := by decide +kernel
theorem dX7_count_89 : decode cX7_count 89 = .ok (.goto 4, 3) := by decide +kernel
theorem dX7_count_92 : decode cX7_count 92 = .ok (.iconst 0, 1) := by decide +kernel
theorem dX7_count_93 : decode cX7_count 93 = .ok (.ior, 1) := by decide +kernel
theorem dX7_count_94 : decode cX7_count 94 = .ok (.istore_n 2, 1) := by decide +kernel
theorem dX7_count_95 : decode cX7_count 95 = .ok (.iinc 3 1, 3) := by decide +kernel
theorem dX7_count_98 : decode cX7_count 98 = .ok (.goto (-27), 3) := by decide +kernel
theorem dX7_count_101 : decode cX7_count 101 = .ok (.iload_n 2, 1) := by decide +kernel
theorem dX7_count_102 : decode cX7_count 102 = .ok (.ireturn, 1) := by decide +kernel
theorem dX7_count_103 : decode cX7_count 103 = .ok (.aload_n 0, 1) := by decide +kernel
theorem dX7_count_104 : decode cX7_count 104 = .ok (.aload_n 0, 1) := by decide +kernel
theorem dX7_count_105 : decode cX7_count 105 = .ok (.getfield 127, 3) := by decide +kernel
theorem dX7_count_108 : decode cX7_count 108 = .ok (.invokevirtual 228, 3) := by decide +kernel
theorem dX7_count_111 : decode cX7_count 111 = .ok (.ireturn, 1) := by decide +kernel
theorem dX7_count_112 : decode cX7_count 112 = .ok (.aload_n 0, 1) := by decide +kernel
theorem dX7_count_113 : decode cX7_count 113 = .ok (.getfield 300, 3) := by decide +kernel
theorem dX7_count_116 : decode cX7_count 116 = .ok (.ireturn, 1) := by decide +kernel
theorem dX7_count_117 : decode cX7_count 117 = .ok (.aload_n 0, 1) := by decide +kernel
theorem dX7_count_118 : decode cX7_count 118 = .ok (.getfield 139, 3) := by decide +kernel
theorem dX7_count_121 : decode cX7_count 121 = .ok (.ireturn, 1) := by decide +kernel
theorem dX7_count_122 : decode cX7_count 122 = .ok (.iload_n 1, 1) := by decide +kernel
theorem dX7_count_123 : decode cX7_count 123 = .ok (.bipush 11, 2) := by decide +kernel
theorem dX7_count_125 : decode cX7_count 125 = .ok (.bipush 16, 2) := by decide +kernel
theorem dX7_count_127 : decode cX7_count 127 = .ok (.invokestatic 96, 3) := by decide +kernel
theorem dX7_count_130 : decode cX7_count 130 = .ok (.ifCond .eq 15, 3) := by decide +kernel
theorem dX7_count_133 : decode cX7_count 133 = .ok (.aload_n 0, 1) := by decide +kernel
theorem dX7_count_134 : decode cX7_count 134 = .ok (.getfield 28, 3) := by decide +kernel
theorem dX7_count_137 : decode cX7_count 137 = .ok (.iload_n 1, 1) := by decide +kernel
theorem dX7_count_138 : decode cX7_count 138 = .ok (.bipush 10, 2) := by decide +kernel
theorem dX7_count_140 : decode cX7_count 140 = .ok (.isub, 1) := by decide +kernel
theorem dX7_count_141 : decode cX7_count 141 = .ok (.iaload, 1) := by decide +kernel
theorem dX7_count_142 : decode cX7_count 142 = .ok (.goto 5, 3) := by decide +kernel
theorem dX7_count_145 : decode cX7_count 145 = .ok (.bipush (-9), 2) := by decide +kernel
theorem dX7_count_147 : decode cX7_count 147 = .ok (.ireturn, 1) := by decide +kernel
theorem dJ5_init_d00df_0 : decode cJ5_init_d00df 0 = .ok (.aload_n 0, 1) := by decide +kernel
theorem dJ5_init_d00df_1 : decode cJ5_init_d00df 1 = .ok (.invokespecial 3, 3) := by decide +kernel
theorem dJ5_init_d00df_4 : decode cJ5_init_d00df 4 = .ok (.getstatic 18, 3) := by decide +kernel
theorem dJ5_init_d00df_7 : decode cJ5_init_d00df 7 = .ok (.ifCond .eq 18, 3) := by decide +kernel
theorem dJ5_init_d00df_10 : decode cJ5_init_d00df 10 = .ok (.aload_n 0, 1) := by decide +kernel
theorem dJ5_init_d00df_11 : decode cJ5_init_d00df 11 = .ok (.iload_n 1, 1) := by decide +kernel
theorem dJ5_init_d00df_12 : decode cJ5_init_d00df 12 = .ok (.newarray .byte, 2) := by decide +kernel
theorem dJ5_init_d00df_14 : decode cJ5_init_d00df 14 = .ok (.putfield 15, 3) := by decide +kernel
theorem dJ5_init_d00df_17 : decode cJ5_init_d00df 17 = .ok (.aload_n 0, 1) := by decide +kernel
theorem dJ5_init_d00df_18 : decode cJ5_init_d00df 18 = .ok (.iconst 0, 1) := by decide +kernel
theorem dJ5_init_d00df_19 : decode cJ5_init_d00df 19 = .ok (.putfield 22, 3) := by decide +kernel
theorem dJ5_init_d00df_22 : decode cJ5_init_d00df 22 = .ok (.goto 16, 3) := by decide +kernel
theorem dJ5_init_d00df_25 : decode cJ5_init_d00df 25 = .ok (.aload_n 0, 1) := by decide +kernel
theorem dJ5_init_d00df_26 : decode cJ5_init_d00df 26 = .ok (.iload_n 1, 1) := by decide +kernel
theorem dJ5_init_d00df_27 : decode cJ5_init_d00df 27 = .ok (.invokestatic 26, 3) := by decide +kernel
theorem dJ5_init_d00df_30 : decode cJ5_init_d00df 30 = .ok (.putfield 15, 3) := by decide +kernel
theorem dJ5_init_d00df_33 : decode cJ5_init_d00df 33 = .ok (.aload_n 0, 1) := by decide +kernel
theorem dJ5_init_d00df_34 : decode cJ5_init_d00df 34 = .ok (.iconst 1, 1) := by decide +kernel
theorem dJ5_init_d00df_35 : decode cJ5_init_d00df 35 = .ok (.putfield 22, 3) := by decide +kernel
theorem dJ5_init_d00df_38 : decode cJ5_init_d00df 38 = .ok (.return_, 1) := by decide +kernel
theorem dJ5_length_8abf5_0 : decode cJ5_length_8abf5 0 = .ok (.aload_n 0, 1) := by decide +kernel
theorem dJ5_length_8abf5_1 : decode cJ5_length_8abf5 1 = .ok (.getfield 79, 3) := by decide +kernel
theorem dJ5_length_8abf5_4 : decode cJ5_length_8abf5 4 = .ok (.ireturn, 1) := by decide +kernel
theorem dJ5_ensureCapacityInternal_d00df_0 : decode cJ5_ensureCapacityInternal_d00df 0 = .ok (.aload_n 0, 1) := by decide +kernel
theorem dJ5_ensureCapacityInternal_d00df_1 : decode cJ5_ensureCapacityInternal_d00df 1 = .ok (.getfield 15, 3) := by decide +kernel
theorem dJ5_ensureCapacityInternal_d00df_4 : decode cJ5_ensureCapacityInternal_d00df 4 = .ok (.arraylength, 1) := by decide +kernel
theorem dJ5_ensureCapacityInternal_d00df_5 : decode cJ5_ensureCapacityInternal_d00df 5 = .ok (.aload_n 0, 1) := by decide +kernel
theorem dJ5_ensureCapacityInternal_d00df_6 : decode cJ5_ensureCapacityInternal_d00df 6 = .ok (.getfield 22, 3) := by decide +kernel
theorem dJ5_ensureCapacityInternal_d00df_9 : decode cJ5_ensureCapacityInternal_d00df 9 = .ok (.ishr, 1) := by decide +kernel
theorem dJ5_ensureCapacityInternal_d00df_10 : decode cJ5_ensureCapacityInternal_d00df 10 = .ok (.istore_n 2, 1) := by decide +kernel
theorem dJ5_ensureCapacityInternal_d00df_11 : decode cJ5_ensureCapacityInternal_d00df 11 = .ok (.iload_n 1, 1) := by decide +kernel
theorem dJ5_ensureCapacityInternal_d00df_12 : decode cJ5_ensureCapacityInternal_d00df 12 = .ok (.iload_n 2, 1) := by decide +kernel
theorem dJ5_ensureCapacityInternal_d00df_13 : decode cJ5_ensureCapacityInternal_d00df 13 = .ok (.isub, 1) := by decide +kernel
theorem dJ5_ensureCapacityInternal_d00df_14 : decode cJ5_ensureCapacityInternal_d00df 14 = .ok (.ifCond .le 24, 3) := by decide +kernel
theorem dJ5_ensureCapacityInternal_d00df_17 : decode cJ5_ensureCapacityInternal_d00df 17 = .ok (.aload_n 0, 1) := by decide +kernel
theorem dJ5_ensureCapacityInternal_d00df_18 : decode cJ5_ensureCapacityInternal_d00df 18 = .ok (.aload_n 0, 1) := by decide +kernel
theorem dJ5_ensureCapacityInternal_d00df_19 : decode cJ5_ensureCapacityInternal_d00df 19 = .ok (.getfield 15, 3) := by decide +kernel
theorem dJ5_ensureCapacityInternal_d00df_22 : decode cJ5_ensureCapacityInternal_d00df 22 = .ok (.aload_n 0, 1) := by decide +kernel
theorem dJ5_ensureCapacityInternal_d00df_23 : decode cJ5_ensureCapacityInternal_d00df 23 = .ok (.iload_n 1, 1) := by decide +kernel
theorem dJ5_ensureCapacityInternal_d00df_24 : decode cJ5_ensureCapacityInternal_d00df 24 = .ok (.invokevirtual 104, 3) := by decide +kernel
theorem dJ5_ensureCapacityInternal_d00df_27 : decode cJ5_ensureCapacityInternal_d00df 27 = .ok (.aload_n 0, 1) := by decide +kernel
theorem dJ5_ensureCapacityInternal_d00df_28 : decode cJ5_ensureCapacityInternal_d00df 28 = .ok (.getfield 22, 3) := by decide +kernel
theorem dJ5_ensureCapacityInternal_d00df_31 : decode cJ5_ensureCapacityInternal_d00df 31 = .ok (.ishl, 1) := by decide +kernel
theorem dJ5_ensureCapacityInternal_d00df_32 : decode cJ5_ensureCapacityInternal_d00df 32 = .ok (.invokestatic 108, 3) := by decide +kernel
theorem dJ5_ensureCapacityInternal_d00df_35 : decode cJ5_ensureCapacityInternal_d00df 35 = .ok (.putfield 15, 3) := by decide +kernel
theorem dJ5_ensureCapacityInternal_d00df_38 : decode cJ5_ensureCapacityInternal_d00df 38 = .ok (.return_, 1) := by decide +kernel
theorem dJ5_newCapacity_0f7a4_0 : decode cJ5_newCapacity_0f7a4 0 = .ok (.aload_n 0, 1) := by decide +kernel
theorem dJ5_newCapacity_0f7a4_1 : decode cJ5_newCapacity_0f7a4 1 = .ok (.getfield 15, 3) := by decide +kernel
theorem dJ5_newCapacity_0f7a4_4 : decode cJ5_newCapacity_0f7a4 4 = .ok (.arraylength, 1) := by decide +kernel
theorem dJ5_newCapacity_0f7a4_5 : decode cJ5_newCapacity_0f7a4 5 = .ok (.istore_n 2, 1) := by decide +kernel
theorem dJ5_newCapacity_0f7a4_6 : decode cJ5_newCapacity_0f7a4 6 = .ok (.iload_n 1, 1) := by decide +kernel
theorem dJ5_newCapacity_0f7a4_7 : decode cJ5_newCapacity_0f7a4 7 = .ok (.aload_n 0, 1) := by decide +kernel
theorem dJ5_newCapacity_0f7a4_8 : decode cJ5_newCapacity_0f7a4 8 = .ok (.getfield 22, 3) := by decide +kernel
theorem dJ5_newCapacity_0f7a4_11 : decode cJ5_newCapacity_0f7a4 11 = .ok (.ishl, 1) := by decide +kernel
theorem dJ5_newCapacity_0f7a4_12 : decode cJ5_newCapacity_0f7a4 12 = .ok (.istore_n 3, 1) := by decide +kernel
theorem dJ5_newCapacity_0f7a4_13 : decode cJ5_newCapacity_0f7a4 13 = .ok (.iload_n 3, 1) := by decide +kernel
theorem dJ5_newCapacity_0f7a4_14 : decode cJ5_newCapacity_0f7a4 14 = .ok (.iload_n 2, 1) := by decide +kernel
theorem dJ5_newCapacity_0f7a4_15 : decode cJ5_newCapacity_0f7a4 15 = .ok (.isub, 1) := by decide +kernel
theorem dJ5_newCapacity_0f7a4_16 : decode cJ5_newCapacity_0f7a4 16 = .ok (.istore 4, 2) := by decide +kernel
theorem dJ5_newCapacity_0f7a4_18 : decode cJ5_newCapacity_0f7a4 18 = .ok (.iload_n 2, 1) := by decide +kernel
theorem dJ5_newCapacity_0f7a4_19 : decode cJ5_newCapacity_0f7a4 19 = .ok (.iload 4, 2) := by decide +kernel
theorem dJ5_newCapacity_0f7a4_21 : decode cJ5_newCapacity_0f7a4 21 = .ok (.iload_n 2, 1) := by decide +kernel
theorem dJ5_newCapacity_0f7a4_22 : decode cJ5_newCapacity_0f7a4 22 = .ok (.iconst 2, 1) := by decide +kernel
theorem dJ5_newCapacity_0f7a4_23 : decode cJ5_newCapacity_0f7a4 23 = .ok (.aload_n 0, 1) := by decide +kernel
theorem dJ5_newCapacity_0f7a4_24 : decode cJ5_newCapacity_0f7a4 24 = .ok (.getfield 22, 3) := by decide +kernel
theorem dJ5_newCapacity_0f7a4_27 : decode cJ5_newCapacity_0f7a4 27 = .ok (.ishl, 1) := by decide +kernel
theorem dJ5_newCapacity_0f7a4_28 : decode cJ5_newCapacity_0f7a4 28 = .ok (.iadd, 1) := by decide +kernel
theorem dJ5_newCapacity_0f7a4_29 : decode cJ5_newCapacity_0f7a4 29 = .ok (.invokestatic 114, 3) := by decide +kernel
theorem dJ5_newCapacity_0f7a4_32 : decode cJ5_newCapacity_0f7a4 32 = .ok (.istore 5, 2) := by decide +kernel
theorem dJ5_newCapacity_0f7a4_34 : decode cJ5_newCapacity_0f7a4 34 = .ok (.iload 5, 2) := by decide +kernel
theorem dJ5_newCapacity_0f7a4_36 : decode cJ5_newCapacity_0f7a4 36 = .ok (.ldc 39, 2) := by decide +kernel
theorem dJ5_newCapacity_0f7a4_38 : decode cJ5_newCapacity_0f7a4 38 = .ok (.if_icmp .ne 13, 3) := by decide +kernel
theorem dJ5_newCapacity_0f7a4_41 : decode cJ5_newCapacity_0f7a4 41 = .ok (.new 120, 3) := by decide +kernel
theorem dJ5_newCapacity_0f7a4_44 : decode cJ5_newCapacity_0f7a4 44 = .ok (.dup, 1) := by decide +kernel
theorem dJ5_newCapacity_0f7a4_45 : decode cJ5_newCapacity_0f7a4 45 = .ok (.ldc 122, 2) := by decide +kernel
theorem dJ5_newCapacity_0f7a4_47 : decode cJ5_newCapacity_0f7a4 47 = .ok (.invokespecial 124, 3) := by decide +kernel
theorem dJ5_newCapacity_0f7a4_50 : decode cJ5_newCapacity_0f7a4 50 = .ok (.athrow, 1) := by decide +kernel
theorem dJ5_newCapacity_0f7a4_51 : decode cJ5_newCapacity_0f7a4 51 = .ok (.iload 5, 2) := by decide +kernel
theorem dJ5_newCapacity_0f7a4_53 : decode cJ5_newCapacity_0f7a4 53 = .ok (.aload_n 0, 1) := by decide +kernel
theorem dJ5_newCapacity_0f7a4_54 : decode cJ5_newCapacity_0f7a4 54 = .ok (.getfield 22, 3) := by decide +kernel
theorem dJ5_newCapacity_0f7a4_57 : decode cJ5_newCapacity_0f7a4 57 = .ok (.ishr, 1) := by decide +kernel
theorem dJ5_newCapacity_0f7a4_58 : decode cJ5_newCapacity_0f7a4 58 = .ok (.ireturn, 1) := by decide +kernel
theorem dJ5_inflate_da8c8_0 : decode cJ5_inflate_da8c8 0 = .ok (.aload_n 0, 1) := by decide +kernel
theorem dJ5_inflate_da8c8_1 : decode cJ5_inflate_da8c8 1 = .ok (.invokevirtual 83, 3) := by decide +kernel
theorem dJ5_inflate_da8c8_4 : decode cJ5_inflate_da8c8 4 = .ok (.ifCond .ne 4, 3) := by decide +kernel
theorem dJ5_inflate_da8c8_7 : decode cJ5_inflate_da8c8 7 = .ok (.return_, 1) := by decide +kernel
theorem dJ5_inflate_da8c8_8 : decode cJ5_inflate_da8c8 8 = .ok (.aload_n 0, 1) := by decide +kernel
theorem dJ5_inflate_da8c8_9 : decode cJ5_inflate_da8c8 9 = .ok (.getfield 15, 3) := by decide +kernel
theorem dJ5_inflate_da8c8_12 : decode cJ5_inflate_da8c8 12 = .ok (.arraylength, 1) := by decide +kernel
theorem dJ5_inflate_da8c8_13 : decode cJ5_inflate_da8c8 13 = .ok (.invokestatic 26, 3) := by decide +kernel
theorem dJ5_inflate_da8c8_16 : decode cJ5_inflate_da8c8 16 = .ok (.astore_n 1, 1) := by decide +kernel
theorem dJ5_inflate_da8c8_17 : decode cJ5_inflate_da8c8 17 = .ok (.aload_n 0, 1) := by decide +kernel
theorem dJ5_inflate_da8c8_18 : decode cJ5_inflate_da8c8 18 = .ok (.getfield 15, 3) := by decide +kernel
theorem dJ5_inflate_da8c8_21 : decode cJ5_inflate_da8c8 21 = .ok (.iconst 0, 1) := by decide +kernel
theorem dJ5_inflate_da8c8_22 : decode cJ5_inflate_da8c8 22 = .ok (.aload_n 1, 1) := by decide +kernel
theorem dJ5_inflate_da8c8_23 : decode cJ5_inflate_da8c8 23 = .ok (.iconst 0, 1) := by decide +kernel
theorem dJ5_inflate_da8c8_24 : decode cJ5_inflate_da8c8 24 = .ok (.aload_n 0, 1) := by decide +kernel
theorem dJ5_inflate_da8c8_25 : decode cJ5_inflate_da8c8 25 = .ok (.getfield 79, 3) := by decide +kernel
theorem dJ5_inflate_da8c8_28 : decode cJ5_inflate_da8c8 28 = .ok (.invokestatic 125, 3) := by decide +kernel
theorem dJ5_inflate_da8c8_31 : decode cJ5_inflate_da8c8 31 = .ok (.aload_n 0, 1) := by decide +kernel
theorem dJ5_inflate_da8c8_32 : decode cJ5_inflate_da8c8 32 = .ok (.aload_n 1, 1) := by decide +kernel
theorem dJ5_inflate_da8c8_33 : decode cJ5_inflate_da8c8 33 = .ok (.putfield 15, 3) := by decide +kernel
theorem dJ5_inflate_da8c8_36 : decode cJ5_inflate_da8c8 36 = .ok (.aload_n 0, 1) := by decide +kernel
theorem dJ5_inflate_da8c8_37 : decode cJ5_inflate_da8c8 37 = .ok (.iconst 1, 1) := by decide +kernel
theorem dJ5_inflate_da8c8_38 : decode cJ5_inflate_da8c8 38 = .ok (.putfield 22, 3) := by decide +kernel
theorem dJ5_inflate_da8c8_41 : decode cJ5_inflate_da8c8 41 = .ok (.return_, 1) := by decide +kernel
theorem dJ5_charAt_5068e_0 : decode cJ5_charAt_5068e 0 = .ok (.aload_n 0, 1) := by decide +kernel
theorem dJ5_charAt_5068e_1 : decode cJ5_charAt_5068e 1 = .ok (.getfield 22, 3) := by decide +kernel
theorem dJ5_charAt_5068e_4 : decode cJ5_charAt_5068e 4 = .ok (.istore_n 2, 1) := by decide +kernel
theorem dJ5_charAt_5068e_5 : decode cJ5_charAt_5068e 5 = .ok (.aload_n 0, 1) := by decide +kernel
theorem dJ5_charAt_5068e_6 : decode cJ5_charAt_5068e 6 = .ok (.getfield 15, 3) := by decide +kernel
theorem dJ5_charAt_5068e_9 : decode cJ5_charAt_5068e 9 = .ok (.astore_n 3, 1) := by decide +kernel
theorem dJ5_charAt_5068e_10 : decode cJ5_charAt_5068e 10 = .ok (.aload_n 0, 1) := by decide +kernel
theorem dJ5_charAt_5068e_11 : decode cJ5_charAt_5068e 11 = .ok (.getfield 79, 3) := by decide +kernel
theorem dJ5_charAt_5068e_14 : decode cJ5_charAt_5068e 14 = .ok (.aload_n 3, 1) := by decide +kernel
theorem dJ5_charAt_5068e_15 : decode cJ5_charAt_5068e 15 = .ok (.arraylength, 1) := by decide +kernel
theorem dJ5_charAt_5068e_16 : decode cJ5_charAt_5068e 16 = .ok (.iload_n 2, 1) := by decide +kernel
theorem dJ5_charAt_5068e_17 : decode cJ5_charAt_5068e 17 = .ok (.ishr, 1) := by decide +kernel
theorem dJ5_charAt_5068e_18 : decode cJ5_charAt_5068e 18 = .ok (.invokestatic 138, 3) := by decide +kernel
theorem dJ5_charAt_5068e_21 : decode cJ5_charAt_5068e 21 = .ok (.istore 4, 2) := by decide +kernel
theorem dJ5_charAt_5068e_23 : decode cJ5_charAt_5068e 23 = .ok (.iload_n 1, 1) := by decide +kernel
theorem dJ5_charAt_5068e_24 : decode cJ5_charAt_5068e 24 = .ok (.iload 4, 2) := by decide +kernel
theorem dJ5_charAt_5068e_26 : decode cJ5_charAt_5068e 26 = .ok (.invokestatic 144, 3) := by decide +kernel
theorem dJ5_charAt_5068e_29 : decode cJ5_charAt_5068e 29 = .ok (.iload_n 2, 1) := by decide +kernel
theorem dJ5_charAt_5068e_30 : decode cJ5_charAt_5068e 30 = .ok (.ifCond .ne 12, 3) := by decide +kernel
theorem dJ5_charAt_5068e_33 : decode cJ5_charAt_5068e 33 = .ok (.aload_n 3, 1) := by decide +kernel
theorem dJ5_charAt_5068e_34 : decode cJ5_charAt_5068e 34 = .ok (.iload_n 1, 1) := by decide +kernel
theorem dJ5_charAt_5068e_35 : decode cJ5_charAt_5068e 35 = .ok (.baload, 1) := by decide +kernel
theorem dJ5_charAt_5068e_36 : decode cJ5_charAt_5068e 36 = .ok (.sipush 255, 3) := by decide +kernel
theorem dJ5_charAt_5068e_39 : decode cJ5_charAt_5068e 39 = .ok (.iand, 1) := by decide +kernel
theorem dJ5_charAt_5068e_40 : decode cJ5_charAt_5068e 40 = .ok (.i2c, 1) := by decide +kernel
theorem dJ5_charAt_5068e_41 : decode cJ5_charAt_5068e 41 = .ok (.ireturn, 1) := by decide +kernel
theorem dJ5_charAt_5068e_42 : decode cJ5_charAt_5068e 42 = .ok (.aload_n 3, 1) := by decide +kernel
theorem dJ5_charAt_5068e_43 : decode cJ5_charAt_5068e 43 = .ok (.iload_n 1, 1) := by decide +kernel
theorem dJ5_charAt_5068e_44 : decode cJ5_charAt_5068e 44 = .ok (.invokestatic 148, 3) := by decide +kernel
theorem dJ5_charAt_5068e_47 : decode cJ5_charAt_5068e 47 = .ok (.ireturn, 1) := by decide +kernel
theorem dJ5_append_3fe6f_0 : decode cJ5_append_3fe6f 0 = .ok (.aload_n 0, 1) := by decide +kernel
theorem dJ5_append_3fe6f_1 : decode cJ5_append_3fe6f 1 = .ok (.aload_n 0, 1) := by decide +kernel
theorem dJ5_append_3fe6f_2 : decode cJ5_append_3fe6f 2 = .ok (.getfield 79, 3) := by decide +kernel
theorem dJ5_append_3fe6f_5 : decode cJ5_append_3fe6f 5 = .ok (.iconst 1, 1) := by decide +kernel
theorem dJ5_append_3fe6f_6 : decode cJ5_append_3fe6f 6 = .ok (.iadd, 1) := by decide +kernel
theorem dJ5_append_3fe6f_7 : decode cJ5_append_3fe6f 7 = .ok (.invokevirtual 100, 3) := by decide +kernel
theorem dJ5_append_3fe6f_10 : decode cJ5_append_3fe6f 10 = .ok (.aload_n 0, 1) := by decide +kernel
theorem dJ5_append_3fe6f_11 : decode cJ5_append_3fe6f 11 = .ok (.invokevirtual 83, 3) := by decide +kernel
theorem dJ5_append_3fe6f_14 : decode cJ5_append_3fe6f 14 = .ok (.ifCond .eq 31, 3) := by decide +kernel
theorem dJ5_append_3fe6f_17 : decode cJ5_append_3fe6f 17 = .ok (.iload_n 1, 1) := by decide +kernel
theorem dJ5_append_3fe6f_18 : decode cJ5_append_3fe6f 18 = .ok (.invokestatic 191, 3) := by decide +kernel
theorem dJ5_append_3fe6f_21 : decode cJ5_append_3fe6f 21 = .ok (.ifCond .eq 24, 3) := by decide +kernel
theorem dJ5_append_3fe6f_24 : decode cJ5_append_3fe6f 24 = .ok (.aload_n 0, 1) := by decide +kernel
theorem dJ5_append_3fe6f_25 : decode cJ5_append_3fe6f 25 = .ok (.getfield 15, 3) := by decide +kernel
theorem dJ5_append_3fe6f_28 : decode cJ5_append_3fe6f 28 = .ok (.aload_n 0, 1) := by decide +kernel
theorem dJ5_append_3fe6f_29 : decode cJ5_append_3fe6f 29 = .ok (.dup, 1) := by decide +kernel
theorem dJ5_append_3fe6f_30 : decode cJ5_append_3fe6f 30 = .ok (.getfield 79, 3) := by decide +kernel
theorem dJ5_append_3fe6f_33 : decode cJ5_append_3fe6f 33 = .ok (.dup_x1, 1) := by decide +kernel
theorem dJ5_append_3fe6f_34 : decode cJ5_append_3fe6f 34 = .ok (.iconst 1, 1) := by decide +kernel
theorem dJ5_append_3fe6f_35 : decode cJ5_append_3fe6f 35 = .ok (.iadd, 1) := by decide +kernel
theorem dJ5_append_3fe6f_36 : decode cJ5_append_3fe6f 36 = .ok (.putfield 79, 3) := by decide +kernel
theorem dJ5_append_3fe6f_39 : decode cJ5_append_3fe6f 39 = .ok (.iload_n 1, 1) := by decide +kernel
theorem dJ5_append_3fe6f_40 : decode cJ5_append_3fe6f 40 = .ok (.i2b, 1) := by decide +kernel
theorem dJ5_append_3fe6f_41 : decode cJ5_append_3fe6f 41 = .ok (.bastore, 1) := by decide +kernel
theorem dJ5_append_3fe6f_42 : decode cJ5_append_3fe6f 42 = .ok (.goto 33, 3) := by decide +kernel
theorem dJ5_append_3fe6f_45 : decode cJ5_append_3fe6f 45 = .ok (.aload_n 0, 1) := by decide +kernel
theorem dJ5_append_3fe6f_46 : decode cJ5_append_3fe6f 46 = .ok (.invokevirtual 83, 3) := by decide +kernel
theorem dJ5_append_3fe6f_49 : decode cJ5_append_3fe6f 49 = .ok (.ifCond .eq 7, 3) := by decide +kernel
theorem dJ5_append_3fe6f_52 : decode cJ5_append_3fe6f 52 = .ok (.aload_n 0, 1) := by decide +kernel
theorem dJ5_append_3fe6f_53 : decode cJ5_append_3fe6f 53 = .ok (.invokevirtual 195, 3) := by decide +kernel
theorem dJ5_append_3fe6f_56 : decode cJ5_append_3fe6f 56 = .ok (.aload_n 0, 1) := by decide +kernel
theorem dJ5_append_3fe6f_57 : decode cJ5_append_3fe6f 57 = .ok (.getfield 15, 3) := by decide +kernel
theorem dJ5_append_3fe6f_60 : decode cJ5_append_3fe6f 60 = .ok (.aload_n 0, 1) := by decide +kernel
theorem dJ5_append_3fe6f_61 : decode cJ5_append_3fe6f 61 = .ok (.dup, 1) := by decide +kernel
theorem dJ5_append_3fe6f_62 : decode cJ5_append_3fe6f 62 = .ok (.getfield 79, 3) := by decide +kernel
theorem dJ5_append_3fe6f_65 : decode cJ5_append_3fe6f 65 = .ok (.dup_x1, 1) := by decide +kernel
theorem dJ5_append_3fe6f_66 : decode cJ5_append_3fe6f 66 = .ok (.iconst 1, 1) := by decide +kernel
theorem dJ5_append_3fe6f_67 : decode cJ5_append_3fe6f 67 = .ok (.iadd, 1) := by decide +kernel
theorem dJ5_append_3fe6f_68 : decode cJ5_append_3fe6f 68 = .ok (.putfield 79, 3) := by decide +kernel
theorem dJ5_append_3fe6f_71 : decode cJ5_append_3fe6f 71 = .ok (.iload_n 1, 1) := by decide +kernel
theorem dJ5_append_3fe6f_72 : decode cJ5_append_3fe6f 72 = .ok (.invokestatic 197, 3) := by decide +kernel
theorem dJ5_append_3fe6f_75 : decode cJ5_append_3fe6f 75 = .ok (.aload_n 0, 1) := by decide +kernel
theorem dJ5_append_3fe6f_76 : decode cJ5_append_3fe6f 76 = .ok (.areturn, 1) := by decide +kernel
theorem dJ5_append_c97b9_0 : decode cJ5_append_c97b9 0 = .ok (.aload_n 0, 1) := by decide +kernel
theorem dJ5_append_c97b9_1 : decode cJ5_append_c97b9 1 = .ok (.getfield 79, 3) := by decide +kernel
theorem dJ5_append_c97b9_4 : decode cJ5_append_c97b9 4 = .ok (.istore_n 2, 1) := by decide +kernel
theorem dJ5_append_c97b9_5 : decode cJ5_append_c97b9 5 = .ok (.iload_n 2, 1) := by decide +kernel
theorem dJ5_append_c97b9_6 : decode cJ5_append_c97b9 6 = .ok (.iload_n 1, 1) := by decide +kernel
theorem dJ5_append_c97b9_7 : decode cJ5_append_c97b9 7 = .ok (.invokestatic 245, 3) := by decide +kernel
theorem dJ5_append_c97b9_10 : decode cJ5_append_c97b9 10 = .ok (.iadd, 1) := by decide +kernel
theorem dJ5_append_c97b9_11 : decode cJ5_append_c97b9 11 = .ok (.istore_n 3, 1) := by decide +kernel
theorem dJ5_append_c97b9_12 : decode cJ5_append_c97b9 12 = .ok (.aload_n 0, 1) := by decide +kernel
theorem dJ5_append_c97b9_13 : decode cJ5_append_c97b9 13 = .ok (.iload_n 3, 1) := by decide +kernel
theorem dJ5_append_c97b9_14 : decode cJ5_append_c97b9 14 = .ok (.invokevirtual 100, 3) := by decide +kernel
theorem dJ5_append_c97b9_17 : decode cJ5_append_c97b9 17 = .ok (.aload_n 0, 1) := by decide +kernel
theorem dJ5_append_c97b9_18 : decode cJ5_append_c97b9 18 = .ok (.invokevirtual 83, 3) := by decide +kernel
theorem dJ5_append_c97b9_21 : decode cJ5_append_c97b9 21 = .ok (.ifCond .eq 16, 3) := by decide +kernel
theorem dJ5_append_c97b9_24 : decode cJ5_append_c97b9 24 = .ok (.iload_n 1, 1) := by decide +kernel
theorem dJ5_append_c97b9_25 : decode cJ5_append_c97b9 25 = .ok (.iload_n 3, 1) := by decide +kernel
theorem dJ5_append_c97b9_26 : decode cJ5_append_c97b9 26 = .ok (.aload_n 0, 1) := by decide +kernel
theorem dJ5_append_c97b9_27 : decode cJ5_append_c97b9 27 = .ok (.getfield 15, 3) := by decide +kernel
theorem dJ5_append_c97b9_30 : decode cJ5_append_c97b9 30 = .ok (.invokestatic 248, 3) := by decide +kernel
theorem dJ5_append_c97b9_33 : decode cJ5_append_c97b9 33 = .ok (.pop, 1) := by decide +kernel
theorem dJ5_append_c97b9_34 : decode cJ5_append_c97b9 34 = .ok (.goto 14, 3) := by decide +kernel
theorem dJ5_append_c97b9_37 : decode cJ5_append_c97b9 37 = .ok (.iload_n 1, 1) := by decide +kernel
theorem dJ5_append_c97b9_38 : decode cJ5_append_c97b9 38 = .ok (.iload_n 2, 1) := by decide +kernel
theorem dJ5_append_c97b9_39 : decode cJ5_append_c97b9 39 = .ok (.iload_n 3, 1) := by decide +kernel
theorem dJ5_append_c97b9_40 : decode cJ5_append_c97b9 40 = .ok (.aload_n 0, 1) := by decide +kernel
theorem dJ5_append_c97b9_41 : decode cJ5_append_c97b9 41 = .ok (.getfield 15, 3) := by decide +kernel
theorem dJ5_append_c97b9_44 : decode cJ5_append_c97b9 44 = .ok (.invokestatic 251, 3) := by decide +kernel
theorem dJ5_append_c97b9_47 : decode cJ5_append_c97b9 47 = .ok (.pop, 1) := by decide +kernel
theorem dJ5_append_c97b9_48 : decode cJ5_append_c97b9 48 = .ok (.aload_n 0, 1) := by decide +kernel
theorem dJ5_append_c97b9_49 : decode cJ5_append_c97b9 49 = .ok (.iload_n 3, 1) := by decide +kernel
theorem dJ5_append_c97b9_50 : decode cJ5_append_c97b9 50 = .ok (.putfield 79, 3) := by decide +kernel
theorem dJ5_append_c97b9_53 : decode cJ5_append_c97b9 53 = .ok (.aload_n 0, 1) := by decide +kernel
theorem dJ5_append_c97b9_54 : decode cJ5_append_c97b9 54 = .ok (.areturn, 1) := by decide +kernel
theorem dJ5_isLatin1_aae02_0 : decode cJ5_isLatin1_aae02 0 = .ok (.getstatic 18, 3) := by decide +kernel
theorem dJ5_isLatin1_aae02_3 : decode cJ5_isLatin1_aae02 3 = .ok (.ifCond .eq 14, 3) := by decide +kernel
theorem dJ5_isLatin1_aae02_6 : decode cJ5_isLatin1_aae02 6 = .ok (.aload_n 0, 1) := by decide +kernel
theorem dJ5_isLatin1_aae02_7 : decode cJ5_isLatin1_aae02 7 = .ok (.getfield 22, 3) := by decide +kernel
theorem dJ5_isLatin1_aae02_10 : decode cJ5_isLatin1_aae02 10 = .ok (.ifCond .ne 7, 3) := by decide +kernel
theorem dJ5_isLatin1_aae02_13 : decode cJ5_isLatin1_aae02 13 = .ok (.iconst 1, 1) := by decide +kernel
theorem dJ5_isLatin1_aae02_14 : decode cJ5_isLatin1_aae02 14 = .ok (.goto 4, 3) := by decide +kernel
theorem dJ5_isLatin1_aae02_17 : decode cJ5_isLatin1_aae02 17 = .ok (.iconst 0, 1) := by decide +kernel
theorem dJ5_isLatin1_aae02_18 : decode cJ5_isLatin1_aae02 18 = .ok (.ireturn, 1) := by decide +kernel
theorem dJ6_getChars_ba4f3_0 : decode cJ6_getChars_ba4f3 0 = .ok (.iload_n 1, 1) := by decide +kernel
theorem dJ6_getChars_ba4f3_1 : decode cJ6_getChars_ba4f3 1 = .ok (.istore 5, 2) := by decide +kernel
theorem dJ6_getChars_ba4f3_3 : decode cJ6_getChars_ba4f3 3 = .ok (.iload_n 0, 1) := by decide +kernel
theorem dJ6_getChars_ba4f3_4 : decode cJ6_getChars_ba4f3 4 = .ok (.ifCond .ge 7, 3) := by decide +kernel
theorem dJ6_getChars_ba4f3_7 : decode cJ6_getChars_ba4f3 7 = .ok (.iconst 1, 1) := by decide +kernel
theorem dJ6_getChars_ba4f3_8 : decode cJ6_getChars_ba4f3 8 = .ok (.goto 4, 3) := by decide +kernel
theorem dJ6_getChars_ba4f3_11 : decode cJ6_getChars_ba4f3 11 = .ok (.iconst 0, 1) := by decide +kernel
theorem dJ6_getChars_ba4f3_12 : decode cJ6_getChars_ba4f3 12 = .ok (.istore 6, 2) := by decide +kernel
theorem dJ6_getChars_ba4f3_14 : decode cJ6_getChars_ba4f3 14 = .ok (.iload 6, 2) := by decide +kernel
theorem dJ6_getChars_ba4f3_16 : decode cJ6_getChars_ba4f3 16 = .ok (.ifCond .ne 6, 3) := by decide +kernel
theorem dJ6_getChars_ba4f3_19 : decode cJ6_getChars_ba4f3 19 = .ok (.iload_n 0, 1) := by decide +kernel
theorem dJ6_getChars_ba4f3_20 : decode cJ6_getChars_ba4f3 20 = .ok (.ineg, 1) := by decide +kernel
theorem dJ6_getChars_ba4f3_21 : decode cJ6_getChars_ba4f3 21 = .ok (.istore_n 0, 1) := by decide +kernel
theorem dJ6_getChars_ba4f3_22 : decode cJ6_getChars_ba4f3 22 = .ok (.iload_n 0, 1) := by decide +kernel
theorem dJ6_getChars_ba4f3_23 : decode cJ6_getChars_ba4f3 23 = .ok (.bipush (-100), 2) := by decide +kernel
theorem dJ6_getChars_ba4f3_25 : decode cJ6_getChars_ba4f3 25 = .ok (.if_icmp .gt 47, 3) := by decide +kernel
theorem dJ6_getChars_ba4f3_28 : decode cJ6_getChars_ba4f3 28 = .ok (.iload_n 0, 1) := by decide +kernel
theorem dJ6_getChars_ba4f3_29 : decode cJ6_getChars_ba4f3 29 = .ok (.bipush 100, 2) := by decide +kernel
theorem dJ6_getChars_ba4f3_31 : decode cJ6_getChars_ba4f3 31 = .ok (.idiv, 1) := by decide +kernel
theorem dJ6_getChars_ba4f3_32 : decode cJ6_getChars_ba4f3 32 = .ok (.istore_n 3, 1) := by decide +kernel
theorem dJ6_getChars_ba4f3_33 : decode cJ6_getChars_ba4f3 33 = .ok (.iload_n 3, 1) := by decide +kernel
theorem dJ6_getChars_ba4f3_34 : decode cJ6_getChars_ba4f3 34 = .ok (.bipush 100, 2) := by decide +kernel
theorem dJ6_getChars_ba4f3_36 : decode cJ6_getChars_ba4f3 36 = .ok (.imul, 1) := by decide +kernel
theorem dJ6_getChars_ba4f3_37 : decode cJ6_getChars_ba4f3 37 = .ok (.iload_n 0, 1) := by decide +kernel
theorem dJ6_getChars_ba4f3_38 : decode cJ6_getChars_ba4f3 38 = .ok (.isub, 1) := by decide +kernel
theorem dJ6_getChars_ba4f3_39 : decode cJ6_getChars_ba4f3 39 = .ok (.istore 4, 2) := by decide +kernel
theorem dJ6_getChars_ba4f3_41 : decode cJ6_getChars_ba4f3 41 = .ok (.iload_n 3, 1) := by decide +kernel
theorem dJ6_getChars_ba4f3_42 : decode cJ6_getChars_ba4f3 42 = .ok (.istore_n 0, 1) := by decide +kernel
theorem dJ6_getChars_ba4f3_43 : decode cJ6_getChars_ba4f3 43 = .ok (.aload_n 2, 1) := by decide +kernel
theorem dJ6_getChars_ba4f3_44 : decode cJ6_getChars_ba4f3 44 = .ok (.iinc 5 (-1), 3) := by decide +kernel
theorem dJ6_getChars_ba4f3_47 : decode cJ6_getChars_ba4f3 47 = .ok (.iload 5, 2) := by decide +kernel
theorem dJ6_getChars_ba4f3_49 : decode cJ6_getChars_ba4f3 49 = .ok (.getstatic 83, 3) := by decide +kernel
theorem dJ6_getChars_ba4f3_52 : decode cJ6_getChars_ba4f3 52 = .ok (.iload 4, 2) := by decide +kernel
theorem dJ6_getChars_ba4f3_54 : decode cJ6_getChars_ba4f3 54 = .ok (.baload, 1) := by decide +kernel
theorem dJ6_getChars_ba4f3_55 : decode cJ6_getChars_ba4f3 55 = .ok (.bastore, 1) := by decide +kernel
theorem dJ6_getChars_ba4f3_56 : decode cJ6_getChars_ba4f3 56 = .ok (.aload_n 2, 1) := by decide +kernel
theorem dJ6_getChars_ba4f3_57 : decode cJ6_getChars_ba4f3 57 = .ok (.iinc 5 (-1), 3) := by decide +kernel
theorem dJ6_getChars_ba4f3_60 : decode cJ6_getChars_ba4f3 60 = .ok (.iload 5, 2) := by decide +kernel
theorem dJ6_getChars_ba4f3_62 : decode cJ6_getChars_ba4f3 62 = .ok (.getstatic 87, 3) := by decide +kernel
theorem dJ6_getChars_ba4f3_65 : decode cJ6_getChars_ba4f3 65 = .ok (.iload 4, 2) := by decide +kernel
theorem dJ6_getChars_ba4f3_67 : decode cJ6_getChars_ba4f3 67 = .ok (.baload, 1) := by decide +kernel
theorem dJ6_getChars_ba4f3_68 : decode cJ6_getChars_ba4f3 68 = .ok (.bastore, 1) := by decide +kernel
theorem dJ6_getChars_ba4f3_69 : decode cJ6_getChars_ba4f3 69 = .ok (.goto (-47), 3) := by decide +kernel
theorem dJ6_getChars_ba4f3_72 : decode cJ6_getChars_ba4f3 72 = .ok (.aload_n 2, 1) := by decide +kernel
theorem dJ6_getChars_ba4f3_73 : decode cJ6_getChars_ba4f3 73 = .ok (.iinc 5 (-1), 3) := by decide +kernel
theorem dJ6_getChars_ba4f3_76 : decode cJ6_getChars_ba4f3 76 = .ok (.iload 5, 2) := by decide +kernel
theorem dJ6_getChars_ba4f3_78 : decode cJ6_getChars_ba4f3 78 = .ok (.getstatic 83, 3) := by decide +kernel
theorem dJ6_getChars_ba4f3_81 : decode cJ6_getChars_ba4f3 81 = .ok (.iload_n 0, 1) := by decide +kernel
theorem dJ6_getChars_ba4f3_82 : decode cJ6_getChars_ba4f3 82 = .ok (.ineg, 1) := by decide +kernel
theorem dJ6_getChars_ba4f3_83 : decode cJ6_getChars_ba4f3 83 = .ok (.baload, 1) := by decide +kernel
theorem dJ6_getChars_ba4f3_84 : decode cJ6_getChars_ba4f3 84 = .ok (.bastore, 1) := by decide +kernel
theorem dJ6_getChars_ba4f3_85 : decode cJ6_getChars_ba4f3 85 = .ok (.iload_n 0, 1) := by decide +kernel
theorem dJ6_getChars_ba4f3_86 : decode cJ6_getChars_ba4f3 86 = .ok (.bipush (-9), 2) := by decide +kernel
theorem dJ6_getChars_ba4f3_88 : decode cJ6_getChars_ba4f3 88 = .ok (.if_icmp .ge 16, 3) := by decide +kernel
theorem dJ6_getChars_ba4f3_91 : decode cJ6_getChars_ba4f3 91 = .ok (.aload_n 2, 1) := by decide +kernel
theorem dJ6_getChars_ba4f3_92 : decode cJ6_getChars_ba4f3 92 = .ok (.iinc 5 (-1), 3) := by decide +kernel
theorem dJ6_getChars_ba4f3_95 : decode cJ6_getChars_ba4f3 95 = .ok (.iload 5, 2) := by decide +kernel
theorem dJ6_getChars_ba4f3_97 : decode cJ6_getChars_ba4f3 97 = .ok (.getstatic 87, 3) := by decide +kernel
theorem dJ6_getChars_ba4f3_100 : decode cJ6_getChars_ba4f3 100 = .ok (.iload_n 0, 1) := by decide +kernel
theorem dJ6_getChars_ba4f3_101 : decode cJ6_getChars_ba4f3 101 = .ok (.ineg, 1) := by decide +kernel
theorem dJ6_getChars_ba4f3_102 : decode cJ6_getChars_ba4f3 102 = .ok (.baload, 1) := by decide +kernel
theorem dJ6_getChars_ba4f3_103 : decode cJ6_getChars_ba4f3 103 = .ok (.bastore, 1) := by decide +kernel
theorem dJ6_getChars_ba4f3_104 : decode cJ6_getChars_ba4f3 104 = .ok (.iload 6, 2) := by decide +kernel
