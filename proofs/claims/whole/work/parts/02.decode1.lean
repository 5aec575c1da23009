theorem dX6_may_0 : decode cX6_may 0 = .ok (.iload_n 1, 1) := by decide +kernel
theorem dX6_may_1 : decode cX6_may 1 = .ok (.ifCond .ge 10, 3) := by decide +kernel
theorem dX6_may_4 : decode cX6_may 4 = .ok (.aload_n 0, 1) := by decide +kernel
theorem dX6_may_5 : decode cX6_may 5 = .ok (.bipush (-4), 2) := by decide +kernel
theorem dX6_may_7 : decode cX6_may 7 = .ok (.invokevirtual 72, 3) := by decide +kernel
theorem dX6_may_10 : decode cX6_may 10 = .ok (.ireturn, 1) := by decide +kernel
theorem dX6_may_11 : decode cX6_may 11 = .ok (.aload_n 0, 1) := by decide +kernel
theorem dX6_may_12 : decode cX6_may 12 = .ok (.iload_n 1, 1) := by decide +kernel
theorem dX6_may_13 : decode cX6_may 13 = .ok (.invokevirtual 178, 3) := by decide +kernel
theorem dX6_may_16 : decode cX6_may 16 = .ok (.ifCond .ne 10, 3) := by decide +kernel
theorem dX6_may_19 : decode cX6_may 19 = .ok (.aload_n 0, 1) := by decide +kernel
theorem dX6_may_20 : decode cX6_may 20 = .ok (.bipush (-6), 2) := by decide +kernel
theorem dX6_may_22 : decode cX6_may 22 = .ok (.invokevirtual 72, 3) := by decide +kernel
theorem dX6_may_25 : decode cX6_may 25 = .ok (.ireturn, 1) := by decide +kernel
theorem dX6_may_26 : decode cX6_may 26 = .ok (.aload_n 0, 1) := by decide +kernel
theorem dX6_may_27 : decode cX6_may 27 = .ok (.getfield 25, 3) := by decide +kernel
theorem dX6_may_30 : decode cX6_may 30 = .ok (.aload_n 0, 1) := by decide +kernel
theorem dX6_may_31 : decode cX6_may 31 = .ok (.getfield 10, 3) := by decide +kernel
theorem dX6_may_34 : decode cX6_may 34 = .ok (.invokevirtual 181, 3) := by decide +kernel
theorem dX6_may_37 : decode cX6_may 37 = .ok (.aload_n 0, 1) := by decide +kernel
theorem dX6_may_38 : decode cX6_may 38 = .ok (.getfield 25, 3) := by decide +kernel
theorem dX6_may_41 : decode cX6_may 41 = .ok (.iload_n 1, 1) := by decide +kernel
theorem dX6_may_42 : decode cX6_may 42 = .ok (.invokevirtual 184, 3) := by decide +kernel
theorem dX6_may_45 : decode cX6_may 45 = .ok (.ifCond .eq 7, 3) := by decide +kernel
theorem dX6_may_48 : decode cX6_may 48 = .ok (.iconst 1, 1) := by decide +kernel
theorem dX6_may_49 : decode cX6_may 49 = .ok (.goto 4, 3) := by decide +kernel
theorem dX6_may_52 : decode cX6_may 52 = .ok (.iconst 0, 1) := by decide +kernel
theorem dX6_may_53 : decode cX6_may 53 = .ok (.ireturn, 1) := by decide +kernel
theorem dX6_winners_0 : decode cX6_winners 0 = .ok (.iload_n 1, 1) := by decide +kernel
theorem dX6_winners_1 : decode cX6_winners 1 = .ok (.tableswitch 77 0 3 #[31, 40, 49, 65], 31) := by decide +kernel
theorem dX6_winners_32 : decode cX6_winners 32 = .ok (.aload_n 0, 1) := by decide +kernel
theorem dX6_winners_33 : decode cX6_winners 33 = .ok (.aload_n 0, 1) := by decide +kernel
theorem dX6_winners_34 : decode cX6_winners 34 = .ok (.getfield 10, 3) := by decide +kernel
theorem dX6_winners_37 : decode cX6_winners 37 = .ok (.invokevirtual 150, 3) := by decide +kernel
theorem dX6_winners_40 : decode cX6_winners 40 = .ok (.ireturn, 1) := by decide +kernel
theorem dX6_winners_41 : decode cX6_winners 41 = .ok (.aload_n 0, 1) := by decide +kernel
theorem dX6_winners_42 : decode cX6_winners 42 = .ok (.aload_n 0, 1) := by decide +kernel
theorem dX6_winners_43 : decode cX6_winners 43 = .ok (.getfield 10, 3) := by decide +kernel
theorem dX6_winners_46 : decode cX6_winners 46 = .ok (.invokevirtual 187, 3) := by decide +kernel
theorem dX6_winners_49 : decode cX6_winners 49 = .ok (.ireturn, 1) := by decide +kernel
theorem dX6_winners_50 : decode cX6_winners 50 = .ok (.aload_n 0, 1) := by decide +kernel
theorem dX6_winners_51 : decode cX6_winners 51 = .ok (.getfield 10, 3) := by decide +kernel
theorem dX6_winners_54 : decode cX6_winners 54 = .ok (.aload_n 0, 1) := by decide +kernel
theorem dX6_winners_55 : decode cX6_winners 55 = .ok (.aload_n 0, 1) := by decide +kernel
theorem dX6_winners_56 : decode cX6_winners 56 = .ok (.getfield 10, 3) := by decide +kernel
theorem dX6_winners_59 : decode cX6_winners 59 = .ok (.invokevirtual 150, 3) := by decide +kernel
theorem dX6_winners_62 : decode cX6_winners 62 = .ok (.invokevirtual 190, 3) := by decide +kernel
theorem dX6_winners_65 : decode cX6_winners 65 = .ok (.ireturn, 1) := by decide +kernel
theorem dX6_winners_66 : decode cX6_winners 66 = .ok (.aload_n 0, 1) := by decide +kernel
theorem dX6_winners_67 : decode cX6_winners 67 = .ok (.getfield 39, 3) := by decide +kernel
theorem dX6_winners_70 : decode cX6_winners 70 = .ok (.aload_n 0, 1) := by decide +kernel
theorem dX6_winners_71 : decode cX6_winners 71 = .ok (.getfield 10, 3) := by decide +kernel
theorem dX6_winners_74 : decode cX6_winners 74 = .ok (.invokevirtual 193, 3) := by decide +kernel
theorem dX6_winners_77 : decode cX6_winners 77 = .ok (.ireturn, 1) := by decide +kernel
theorem dX6_winners_78 : decode cX6_winners 78 = .ok (.aload_n 0, 1) := by decide +kernel
theorem dX6_winners_79 : decode cX6_winners 79 = .ok (.bipush (-2), 2) := by decide +kernel
theorem dX6_winners_81 : decode cX6_winners 81 = .ok (.invokevirtual 72, 3) := by decide +kernel
theorem dX6_winners_84 : decode cX6_winners 84 = .ok (.ireturn, 1) := by decide +kernel
theorem dX6_rank_0 : decode cX6_rank 0 = .ok (.iload_n 1, 1) := by decide +kernel
theorem dX6_rank_1 : decode cX6_rank 1 = .ok (.ifCond .ge 10, 3) := by decide +kernel
theorem dX6_rank_4 : decode cX6_rank 4 = .ok (.aload_n 0, 1) := by decide +kernel
theorem dX6_rank_5 : decode cX6_rank 5 = .ok (.bipush (-4), 2) := by decide +kernel
theorem dX6_rank_7 : decode cX6_rank 7 = .ok (.invokevirtual 72, 3) := by decide +kernel
theorem dX6_rank_10 : decode cX6_rank 10 = .ok (.ireturn, 1) := by decide +kernel
theorem dX6_rank_11 : decode cX6_rank 11 = .ok (.iload_n 2, 1) := by decide +kernel
theorem dX6_rank_12 : decode cX6_rank 12 = .ok (.invokestatic 196, 3) := by decide +kernel
theorem dX6_rank_15 : decode cX6_rank 15 = .ok (.ifCond .ne 10, 3) := by decide +kernel
theorem dX6_rank_18 : decode cX6_rank 18 = .ok (.aload_n 0, 1) := by decide +kernel
theorem dX6_rank_19 : decode cX6_rank 19 = .ok (.bipush (-2), 2) := by decide +kernel
theorem dX6_rank_21 : decode cX6_rank 21 = .ok (.invokevirtual 72, 3) := by decide +kernel
theorem dX6_rank_24 : decode cX6_rank 24 = .ok (.ireturn, 1) := by decide +kernel
theorem dX6_rank_25 : decode cX6_rank 25 = .ok (.aload_n 0, 1) := by decide +kernel
theorem dX6_rank_26 : decode cX6_rank 26 = .ok (.getfield 25, 3) := by decide +kernel
theorem dX6_rank_29 : decode cX6_rank 29 = .ok (.aload_n 0, 1) := by decide +kernel
theorem dX6_rank_30 : decode cX6_rank 30 = .ok (.getfield 10, 3) := by decide +kernel
theorem dX6_rank_33 : decode cX6_rank 33 = .ok (.invokevirtual 181, 3) := by decide +kernel
theorem dX6_rank_36 : decode cX6_rank 36 = .ok (.iload_n 1, 1) := by decide +kernel
theorem dX6_rank_37 : decode cX6_rank 37 = .ok (.aload_n 0, 1) := by decide +kernel
theorem dX6_rank_38 : decode cX6_rank 38 = .ok (.getfield 25, 3) := by decide +kernel
theorem dX6_rank_41 : decode cX6_rank 41 = .ok (.getfield 199, 3) := by decide +kernel
theorem dX6_rank_44 : decode cX6_rank 44 = .ok (.if_icmp .lt 6, 3) := by decide +kernel
theorem dX6_rank_47 : decode cX6_rank 47 = .ok (.bipush (-9), 2) := by decide +kernel
theorem dX6_rank_49 : decode cX6_rank 49 = .ok (.ireturn, 1) := by decide +kernel
theorem dX6_rank_50 : decode cX6_rank 50 = .ok (.aload_n 0, 1) := by decide +kernel
theorem dX6_rank_51 : decode cX6_rank 51 = .ok (.getfield 25, 3) := by decide +kernel
theorem dX6_rank_54 : decode cX6_rank 54 = .ok (.iload_n 1, 1) := by decide +kernel
theorem dX6_rank_55 : decode cX6_rank 55 = .ok (.invokevirtual 202, 3) := by decide +kernel
theorem dX6_rank_58 : decode cX6_rank 58 = .ok (.iload_n 2, 1) := by decide +kernel
theorem dX6_rank_59 : decode cX6_rank 59 = .ok (.invokestatic 205, 3) := by decide +kernel
theorem dX6_rank_62 : decode cX6_rank 62 = .ok (.ireturn, 1) := by decide +kernel
theorem dX6_item_0 : decode cX6_item 0 = .ok (.iload_n 1, 1) := by decide +kernel
theorem dX6_item_1 : decode cX6_item 1 = .ok (.invokestatic 135, 3) := by decide +kernel
theorem dX6_item_4 : decode cX6_item 4 = .ok (.ifCond .ne 9, 3) := by decide +kernel
theorem dX6_item_7 : decode cX6_item 7 = .ok (.aload_n 0, 1) := by decide +kernel
theorem dX6_item_8 : decode cX6_item 8 = .ok (.iconst (-1), 1) := by decide +kernel
theorem dX6_item_9 : decode cX6_item 9 = .ok (.invokevirtual 72, 3) := by decide +kernel
theorem dX6_item_12 : decode cX6_item 12 = .ok (.ireturn, 1) := by decide +kernel
theorem dX6_item_13 : decode cX6_item 13 = .ok (.iload_n 2, 1) := by decide +kernel
theorem dX6_item_14 : decode cX6_item 14 = .ok (.tableswitch 82 0 3 #[30, 39, 62, 68], 30) := by decide +kernel
theorem dX6_item_44 : decode cX6_item 44 = .ok (.aload_n 0, 1) := by decide +kernel
theorem dX6_item_45 : decode cX6_item 45 = .ok (.getfield 10, 3) := by decide +kernel
theorem dX6_item_48 : decode cX6_item 48 = .ok (.iload_n 1, 1) := by decide +kernel
theorem dX6_item_49 : decode cX6_item 49 = .ok (.invokevirtual 138, 3) := by decide +kernel
theorem dX6_item_52 : decode cX6_item 52 = .ok (.ireturn, 1) := by decide +kernel
theorem dX6_item_53 : decode cX6_item 53 = .ok (.aload_n 0, 1) := by decide +kernel
theorem dX6_item_54 : decode cX6_item 54 = .ok (.getfield 10, 3) := by decide +kernel
theorem dX6_item_57 : decode cX6_item 57 = .ok (.iconst 1, 1) := by decide +kernel
theorem dX6_item_58 : decode cX6_item 58 = .ok (.iload_n 1, 1) := by decide +kernel
theorem dX6_item_59 : decode cX6_item 59 = .ok (.ishl, 1) := by decide +kernel
theorem dX6_item_60 : decode cX6_item 60 = .ok (.invokevirtual 208, 3) := by decide +kernel
theorem dX6_item_63 : decode cX6_item 63 = .ok (.aload_n 0, 1) := by decide +kernel
theorem dX6_item_64 : decode cX6_item 64 = .ok (.aload_n 0, 1) := by decide +kernel
theorem dX6_item_65 : decode cX6_item 65 = .ok (.getfield 10, 3) := by decide +kernel
theorem dX6_item_68 : decode cX6_item 68 = .ok (.invokevirtual 150, 3) := by decide +kernel
theorem dX6_item_71 : decode cX6_item 71 = .ok (.iand, 1) := by decide +kernel
theorem dX6_item_72 : decode cX6_item 72 = .ok (.invokestatic 211, 3) := by decide +kernel
theorem dX6_item_75 : decode cX6_item 75 = .ok (.ireturn, 1) := by decide +kernel
theorem dX6_item_76 : decode cX6_item 76 = .ok (.aload_n 0, 1) := by decide +kernel
theorem dX6_item_77 : decode cX6_item 77 = .ok (.iload_n 1, 1) := by decide +kernel
theorem dX6_item_78 : decode cX6_item 78 = .ok (.invokevirtual 214, 3) := by decide +kernel
theorem dX6_item_81 : decode cX6_item 81 = .ok (.ireturn, 1) := by decide +kernel
theorem dX6_item_82 : decode cX6_item 82 = .ok (.aload_n 0, 1) := by decide +kernel
theorem dX6_item_83 : decode cX6_item 83 = .ok (.getfield 10, 3) := by decide +kernel
theorem dX6_item_86 : decode cX6_item 86 = .ok (.iconst 1, 1) := by decide +kernel
theorem dX6_item_87 : decode cX6_item 87 = .ok (.iload_n 1, 1) := by decide +kernel
theorem dX6_item_88 : decode cX6_item 88 = .ok (.ishl, 1) := by decide +kernel
theorem dX6_item_89 : decode cX6_item 89 = .ok (.invokevirtual 208, 3) := by decide +kernel
theorem dX6_item_92 : decode cX6_item 92 = .ok (.invokestatic 217, 3) := by decide +kernel
theorem dX6_item_95 : decode cX6_item 95 = .ok (.ireturn, 1) := by decide +kernel
theorem dX6_item_96 : decode cX6_item 96 = .ok (.aload_n 0, 1) := by decide +kernel
theorem dX6_item_97 : decode cX6_item 97 = .ok (.bipush (-2), 2) := by decide +kernel
theorem dX6_item_99 : decode cX6_item 99 = .ok (.invokevirtual 72, 3) := by decide +kernel
theorem dX6_item_102 : decode cX6_item 102 = .ok (.ireturn, 1) := by decide +kernel
theorem dX6_rival_0 : decode cX6_rival 0 = .ok (.aload_n 0, 1) := by decide +kernel
theorem dX6_rival_1 : decode cX6_rival 1 = .ok (.getfield 10, 3) := by decide +kernel
theorem dX6_rival_4 : decode cX6_rival 4 = .ok (.iload_n 1, 1) := by decide +kernel
theorem dX6_rival_5 : decode cX6_rival 5 = .ok (.invokevirtual 105, 3) := by decide +kernel
theorem dX6_rival_8 : decode cX6_rival 8 = .ok (.ifCond .ne 9, 3) := by decide +kernel
theorem dX6_rival_11 : decode cX6_rival 11 = .ok (.aload_n 0, 1) := by decide +kernel
theorem dX6_rival_12 : decode cX6_rival 12 = .ok (.iconst (-1), 1) := by decide +kernel
theorem dX6_rival_13 : decode cX6_rival 13 = .ok (.invokevirtual 72, 3) := by decide +kernel
theorem dX6_rival_16 : decode cX6_rival 16 = .ok (.ireturn, 1) := by decide +kernel
theorem dX6_rival_17 : decode cX6_rival 17 = .ok (.aload_n 0, 1) := by decide +kernel
theorem dX6_rival_18 : decode cX6_rival 18 = .ok (.getfield 10, 3) := by decide +kernel
theorem dX6_rival_21 : decode cX6_rival 21 = .ok (.aload_n 0, 1) := by decide +kernel
theorem dX6_rival_22 : decode cX6_rival 22 = .ok (.getfield 10, 3) := by decide +kernel
theorem dX6_rival_25 : decode cX6_rival 25 = .ok (.iload_n 1, 1) := by decide +kernel
theorem dX6_rival_26 : decode cX6_rival 26 = .ok (.invokevirtual 147, 3) := by decide +kernel
theorem dX6_rival_29 : decode cX6_rival 29 = .ok (.invokevirtual 208, 3) := by decide +kernel
theorem dX6_rival_32 : decode cX6_rival 32 = .ok (.iconst 1, 1) := by decide +kernel
theorem dX6_rival_33 : decode cX6_rival 33 = .ok (.iload_n 1, 1) := by decide +kernel
theorem dX6_rival_34 : decode cX6_rival 34 = .ok (.ishl, 1) := by decide +kernel
theorem dX6_rival_35 : decode cX6_rival 35 = .ok (.iconst (-1), 1) := by decide +kernel
theorem dX6_rival_36 : decode cX6_rival 36 = .ok (.ixor, 1) := by decide +kernel
theorem dX6_rival_37 : decode cX6_rival 37 = .ok (.iand, 1) := by decide +kernel
theorem dX6_rival_38 : decode cX6_rival 38 = .ok (.istore_n 3, 1) := by decide +kernel
theorem dX6_rival_39 : decode cX6_rival 39 = .ok (.iload_n 2, 1) := by decide +kernel
theorem dX6_rival_40 : decode cX6_rival 40 = .ok (.tableswitch 72 0 2 #[28, 30, 41], 28) := by decide +kernel
theorem dX6_rival_68 : decode cX6_rival 68 = .ok (.iload_n 3, 1) := by decide +kernel
theorem dX6_rival_69 : decode cX6_rival 69 = .ok (.ireturn, 1) := by decide +kernel
theorem dX6_rival_70 : decode cX6_rival 70 = .ok (.iload_n 3, 1) := by decide +kernel
theorem dX6_rival_71 : decode cX6_rival 71 = .ok (.aload_n 0, 1) := by decide +kernel
theorem dX6_rival_72 : decode cX6_rival 72 = .ok (.aload_n 0, 1) := by decide +kernel
theorem dX6_rival_73 : decode cX6_rival 73 = .ok (.getfield 10, 3) := by decide +kernel
theorem dX6_rival_76 : decode cX6_rival 76 = .ok (.invokevirtual 150, 3) := by decide +kernel
theorem dX6_rival_79 : decode cX6_rival 79 = .ok (.iand, 1) := by decide +kernel
theorem dX6_rival_80 : decode cX6_rival 80 = .ok (.ireturn, 1) := by decide +kernel
theorem dX6_rival_81 : decode cX6_rival 81 = .ok (.iconst 0, 1) := by decide +kernel
theorem dX6_rival_82 : decode cX6_rival 82 = .ok (.aload_n 0, 1) := by decide +kernel
theorem dX6_rival_83 : decode cX6_rival 83 = .ok (.getfield 10, 3) := by decide +kernel
theorem dX6_rival_86 : decode cX6_rival 86 = .ok (.iload_n 3, 1) := by decide +kernel
theorem dX6_rival_87 : decode cX6_rival 87 = .ok (.aload_n 0, 1) := by decide +kernel
theorem dX6_rival_88 : decode cX6_rival 88 = .ok (.aload_n 0, 1) := by decide +kernel
theorem dX6_rival_89 : decode cX6_rival 89 = .ok (.getfield 10, 3) := by decide +kernel
theorem dX6_rival_92 : decode cX6_rival 92 = .ok (.invokevirtual 150, 3) := by decide +kernel
theorem dX6_rival_95 : decode cX6_rival 95 = .ok (.iand, 1) := by decide +kernel
theorem dX6_rival_96 : decode cX6_rival 96 = .ok (.invokevirtual 222, 3) := by decide +kernel
theorem dX6_rival_99 : decode cX6_rival 99 = .ok (.aload_n 0, 1) := by decide +kernel
theorem dX6_rival_100 : decode cX6_rival 100 = .ok (.getfield 10, 3) := by decide +kernel
theorem dX6_rival_103 : decode cX6_rival 103 = .ok (.iload_n 1, 1) := by decide +kernel
theorem dX6_rival_104 : decode cX6_rival 104 = .ok (.invokevirtual 119, 3) := by decide +kernel
theorem dX6_rival_107 : decode cX6_rival 107 = .ok (.isub, 1) := by decide +kernel
theorem dX6_rival_108 : decode cX6_rival 108 = .ok (.invokestatic 225, 3) := by decide +kernel
theorem dX6_rival_111 : decode cX6_rival 111 = .ok (.ireturn, 1) := by decide +kernel
theorem dX6_rival_112 : decode cX6_rival 112 = .ok (.aload_n 0, 1) := by decide +kernel
theorem dX6_rival_113 : decode cX6_rival 113 = .ok (.bipush (-2), 2) := by decide +kernel
theorem dX6_rival_115 : decode cX6_rival 115 = .ok (.invokevirtual 72, 3) := by decide +kernel
theorem dX6_rival_118 : decode cX6_rival 118 = .ok (.ireturn, 1) := by decide +kernel
theorem dX6_of_0 : decode cX6_of 0 = .ok (.iload_n 1, 1) := by decide +kernel
theorem dX6_of_1 : decode cX6_of 1 = .ok (.ifCond .ge 10, 3) := by decide +kernel
theorem dX6_of_4 : decode cX6_of 4 = .ok (.aload_n 0, 1) := by decide +kernel
theorem dX6_of_5 : decode cX6_of 5 = .ok (.bipush (-4), 2) := by decide +kernel
theorem dX6_of_7 : decode cX6_of 7 = .ok (.invokevirtual 72, 3) := by decide +kernel
theorem dX6_of_10 : decode cX6_of 10 = .ok (.ireturn, 1) := by decide +kernel
theorem dX6_of_11 : decode cX6_of 11 = .ok (.aload_n 0, 1) := by decide +kernel
theorem dX6_of_12 : decode cX6_of 12 = .ok (.iload_n 1, 1) := by decide +kernel
theorem dX6_of_13 : decode cX6_of 13 = .ok (.invokevirtual 178, 3) := by decide +kernel
theorem dX6_of_16 : decode cX6_of 16 = .ok (.ifCond .ne 10, 3) := by decide +kernel
theorem dX6_of_19 : decode cX6_of 19 = .ok (.aload_n 0, 1) := by decide +kernel
theorem dX6_of_20 : decode cX6_of 20 = .ok (.bipush (-6), 2) := by decide +kernel
theorem dX6_of_22 : decode cX6_of 22 = .ok (.invokevirtual 72, 3) := by decide +kernel
theorem dX6_of_25 : decode cX6_of 25 = .ok (.ireturn, 1) := by decide +kernel
theorem dX6_of_26 : decode cX6_of 26 = .ok (.iload_n 2, 1) := by decide +kernel
theorem dX6_of_27 : decode cX6_of 27 = .ok (.invokestatic 196, 3) := by decide +kernel
theorem dX6_of_30 : decode cX6_of 30 = .ok (.ifCond .ne 10, 3) := by decide +kernel
theorem dX6_of_33 : decode cX6_of 33 = .ok (.aload_n 0, 1) := by decide +kernel
theorem dX6_of_34 : decode cX6_of 34 = .ok (.bipush (-2), 2) := by decide +kernel
theorem dX6_of_36 : decode cX6_of 36 = .ok (.invokevirtual 72, 3) := by decide +kernel
theorem dX6_of_39 : decode cX6_of 39 = .ok (.ireturn, 1) := by decide +kernel
theorem dX6_of_40 : decode cX6_of 40 = .ok (.aload_n 0, 1) := by decide +kernel
theorem dX6_of_41 : decode cX6_of 41 = .ok (.getfield 25, 3) := by decide +kernel
theorem dX6_of_44 : decode cX6_of 44 = .ok (.aload_n 0, 1) := by decide +kernel
theorem dX6_of_45 : decode cX6_of 45 = .ok (.getfield 10, 3) := by decide +kernel
theorem dX6_of_48 : decode cX6_of 48 = .ok (.invokevirtual 181, 3) := by decide +kernel
theorem dX6_of_51 : decode cX6_of 51 = .ok (.aload_n 0, 1) := by decide +kernel
theorem dX6_of_52 : decode cX6_of 52 = .ok (.getfield 25, 3) := by decide +kernel
theorem dX6_of_55 : decode cX6_of 55 = .ok (.iload_n 1, 1) := by decide +kernel
theorem dX6_of_56 : decode cX6_of 56 = .ok (.invokevirtual 230, 3) := by decide +kernel
theorem dX6_of_59 : decode cX6_of 59 = .ok (.iload_n 2, 1) := by decide +kernel
theorem dX6_of_60 : decode cX6_of 60 = .ok (.invokestatic 205, 3) := by decide +kernel
theorem dX6_of_63 : decode cX6_of 63 = .ok (.ireturn, 1) := by decide +kernel
theorem dX6_pays_0 : decode cX6_pays 0 = .ok (.iload_n 1, 1) := by decide +kernel
theorem dX6_pays_1 : decode cX6_pays 1 = .ok (.invokestatic 93, 3) := by decide +kernel
theorem dX6_pays_4 : decode cX6_pays 4 = .ok (.ifCond .ne 9, 3) := by decide +kernel
theorem dX6_pays_7 : decode cX6_pays 7 = .ok (.aload_n 0, 1) := by decide +kernel
theorem dX6_pays_8 : decode cX6_pays 8 = .ok (.iconst (-1), 1) := by decide +kernel
theorem dX6_pays_9 : decode cX6_pays 9 = .ok (.invokevirtual 72, 3) := by decide +kernel
theorem dX6_pays_12 : decode cX6_pays 12 = .ok (.ireturn, 1) := by decide +kernel
theorem dX6_pays_13 : decode cX6_pays 13 = .ok (.iload_n 2, 1) := by decide +kernel
theorem dX6_pays_14 : decode cX6_pays 14 = .ok (.invokestatic 233, 3) := by decide +kernel
theorem dX6_pays_17 : decode cX6_pays 17 = .ok (.ifCond .ne 10, 3) := by decide +kernel
theorem dX6_pays_20 : decode cX6_pays 20 = .ok (.aload_n 0, 1) := by decide +kernel
theorem dX6_pays_21 : decode cX6_pays 21 = .ok (.bipush (-2), 2) := by decide +kernel
theorem dX6_pays_23 : decode cX6_pays 23 = .ok (.invokevirtual 72, 3) := by decide +kernel
theorem dX6_pays_26 : decode cX6_pays 26 = .ok (.ireturn, 1) := by decide +kernel
theorem dX6_pays_27 : decode cX6_pays 27 = .ok (.aload_n 0, 1) := by decide +kernel
theorem dX6_pays_28 : decode cX6_pays 28 = .ok (.invokevirtual 236, 3) := by decide +kernel
theorem dX6_pays_31 : decode cX6_pays 31 = .ok (.aload_n 0, 1) := by decide +kernel
theorem dX6_pays_32 : decode cX6_pays 32 = .ok (.getfield 32, 3) := by decide +kernel
theorem dX6_pays_35 : decode cX6_pays 35 = .ok (.iload_n 2, 1) := by decide +kernel
theorem dX6_pays_36 : decode cX6_pays 36 = .ok (.iload_n 1, 1) := by decide +kernel
theorem dX6_pays_37 : decode cX6_pays 37 = .ok (.invokevirtual 239, 3) := by decide +kernel
theorem dX6_pays_40 : decode cX6_pays 40 = .ok (.ireturn, 1) := by decide +kernel
theorem dX6_blocks_0 : decode cX6_blocks 0 = .ok (.iload_n 1, 1) := by decide +kernel
theorem dX6_blocks_1 : decode cX6_blocks 1 = .ok (.invokestatic 233, 3) := by decide +kernel
theorem dX6_blocks_4 : decode cX6_blocks 4 = .ok (.ifCond .eq 10, 3) := by decide +kernel
theorem dX6_blocks_7 : decode cX6_blocks 7 = .ok (.iload_n 2, 1) := by decide +kernel
theorem dX6_blocks_8 : decode cX6_blocks 8 = .ok (.invokestatic 196, 3) := by decide +kernel
theorem dX6_blocks_11 : decode cX6_blocks 11 = .ok (.ifCond .ne 10, 3) := by decide +kernel
theorem dX6_blocks_14 : decode cX6_blocks 14 = .ok (.aload_n 0, 1) := by decide +kernel
theorem dX6_blocks_15 : decode cX6_blocks 15 = .ok (.bipush (-2), 2) := by decide +kernel
theorem dX6_blocks_17 : decode cX6_blocks 17 = .ok (.invokevirtual 72, 3) := by decide +kernel
theorem dX6_blocks_20 : decode cX6_blocks 20 = .ok (.ireturn, 1) := by decide +kernel
theorem dX6_blocks_21 : decode cX6_blocks 21 = .ok (.aload_n 0, 1) := by decide +kernel
theorem dX6_blocks_22 : decode cX6_blocks 22 = .ok (.invokevirtual 236, 3) := by decide +kernel
theorem dX6_blocks_25 : decode cX6_blocks 25 = .ok (.aload_n 0, 1) := by decide +kernel
theorem dX6_blocks_26 : decode cX6_blocks 26 = .ok (.getfield 32, 3) := by decide +kernel
theorem dX6_blocks_29 : decode cX6_blocks 29 = .ok (.iload_n 1, 1) := by decide +kernel
theorem dX6_blocks_30 : decode cX6_blocks 30 = .ok (.invokevirtual 242, 3) := by decide +kernel
theorem dX6_blocks_33 : decode cX6_blocks 33 = .ok (.astore_n 3, 1) := by decide +kernel
theorem dX6_blocks_34 : decode cX6_blocks 34 = .ok (.aload_n 0, 1) := by decide +kernel
theorem dX6_blocks_35 : decode cX6_blocks 35 = .ok (.getfield 32, 3) := by decide +kernel
theorem dX6_blocks_38 : decode cX6_blocks 38 = .ok (.aload_n 3, 1) := by decide +kernel
theorem dX6_blocks_39 : decode cX6_blocks 39 = .ok (.invokevirtual 246, 3) := by decide +kernel
theorem dX6_blocks_42 : decode cX6_blocks 42 = .ok (.istore 4, 2) := by decide +kernel
theorem dX6_blocks_44 : decode cX6_blocks 44 = .ok (.iload_n 2, 1) := by decide +kernel
theorem dX6_blocks_45 : decode cX6_blocks 45 = .ok (.ifCond .ne 6, 3) := by decide +kernel
theorem dX6_blocks_48 : decode cX6_blocks 48 = .ok (.iload 4, 2) := by decide +kernel
theorem dX6_blocks_50 : decode cX6_blocks 50 = .ok (.ireturn, 1) := by decide +kernel
theorem dX6_blocks_51 : decode cX6_blocks 51 = .ok (.iload 4, 2) := by decide +kernel
theorem dX6_blocks_53 : decode cX6_blocks 53 = .ok (.bipush (-9), 2) := by decide +kernel
theorem dX6_blocks_55 : decode cX6_blocks 55 = .ok (.if_icmp .ne 7, 3) := by decide +kernel
theorem dX6_blocks_58 : decode cX6_blocks 58 = .ok (.iconst 0, 1) := by decide +kernel
theorem dX6_blocks_59 : decode cX6_blocks 59 = .ok (.goto 13, 3) := by decide +kernel
theorem dX6_blocks_62 : decode cX6_blocks 62 = .ok (.aload_n 0, 1) := by decide +kernel
theorem dX6_blocks_63 : decode cX6_blocks 63 = .ok (.getfield 32, 3) := by decide +kernel
theorem dX6_blocks_66 : decode cX6_blocks 66 = .ok (.aload_n 3, 1) := by decide +kernel
theorem dX6_blocks_67 : decode cX6_blocks 67 = .ok (.iload 4, 2) := by decide +kernel
theorem dX6_blocks_69 : decode cX6_blocks 69 = .ok (.invokevirtual 250, 3) := by decide +kernel
theorem dX6_blocks_72 : decode cX6_blocks 72 = .ok (.ireturn, 1) := by decide +kernel
theorem dX6_lifts_0 : decode cX6_lifts 0 = .ok (.aload_n 0, 1) := by decide +kernel
theorem dX6_lifts_1 : decode cX6_lifts 1 = .ok (.invokevirtual 236, 3) := by decide +kernel
theorem dX6_lifts_4 : decode cX6_lifts 4 = .ok (.aload_n 0, 1) := by decide +kernel
theorem dX6_lifts_5 : decode cX6_lifts 5 = .ok (.getfield 32, 3) := by decide +kernel
theorem dX6_lifts_8 : decode cX6_lifts 8 = .ok (.getfield 253, 3) := by decide +kernel
theorem dX6_lifts_11 : decode cX6_lifts 11 = .ok (.ireturn, 1) := by decide +kernel
theorem dX6_group_0 : decode cX6_group 0 = .ok (.iload_n 1, 1) := by decide +kernel
theorem dX6_group_1 : decode cX6_group 1 = .ok (.ifCond .ge 10, 3) := by decide +kernel
theorem dX6_group_4 : decode cX6_group 4 = .ok (.aload_n 0, 1) := by decide +kernel
theorem dX6_group_5 : decode cX6_group 5 = .ok (.bipush (-4), 2) := by decide +kernel
theorem dX6_group_7 : decode cX6_group 7 = .ok (.invokevirtual 72, 3) := by decide +kernel
theorem dX6_group_10 : decode cX6_group 10 = .ok (.ireturn, 1) := by decide +kernel
theorem dX6_group_11 : decode cX6_group 11 = .ok (.iload_n 1, 1) := by decide +kernel
theorem dX6_group_12 : decode cX6_group 12 = .ok (.bipush 32, 2) := by decide +kernel
theorem dX6_group_14 : decode cX6_group 14 = .ok (.if_icmp .lt 10, 3) := by decide +kernel
theorem dX6_group_17 : decode cX6_group 17 = .ok (.aload_n 0, 1) := by decide +kernel
theorem dX6_group_18 : decode cX6_group 18 = .ok (.bipush (-6), 2) := by decide +kernel
theorem dX6_group_20 : decode cX6_group 20 = .ok (.invokevirtual 72, 3) := by decide +kernel
theorem dX6_group_23 : decode cX6_group 23 = .ok (.ireturn, 1) := by decide +kernel
theorem dX6_group_24 : decode cX6_group 24 = .ok (.aload_n 0, 1) := by decide +kernel
theorem dX6_group_25 : decode cX6_group 25 = .ok (.aload_n 0, 1) := by decide +kernel
theorem dX6_group_26 : decode cX6_group 26 = .ok (.getfield 10, 3) := by decide +kernel
theorem dX6_group_29 : decode cX6_group 29 = .ok (.invokevirtual 164, 3) := by decide +kernel
theorem dX6_group_32 : decode cX6_group 32 = .ok (.iload_n 2, 1) := by decide +kernel
theorem dX6_group_33 : decode cX6_group 33 = .ok (.tableswitch 114 0 4 #[35, 54, 73, 85, 102], 35) := by decide +kernel
theorem dX6_group_68 : decode cX6_group 68 = .ok (.aload_n 0, 1) := by decide +kernel
theorem dX6_group_69 : decode cX6_group 69 = .ok (.getfield 25, 3) := by decide +kernel
theorem dX6_group_72 : decode cX6_group 72 = .ok (.aload_n 0, 1) := by decide +kernel
theorem dX6_group_73 : decode cX6_group 73 = .ok (.getfield 10, 3) := by decide +kernel
theorem dX6_group_76 : decode cX6_group 76 = .ok (.iload_n 1, 1) := by decide +kernel
theorem dX6_group_77 : decode cX6_group 77 = .ok (.invokevirtual 161, 3) := by decide +kernel
theorem dX6_group_80 : decode cX6_group 80 = .ok (.invokevirtual 230, 3) := by decide +kernel
theorem dX6_group_83 : decode cX6_group 83 = .ok (.invokestatic 256, 3) := by decide +kernel
theorem dX6_group_86 : decode cX6_group 86 = .ok (.ireturn, 1) := by decide +kernel
theorem dX6_group_87 : decode cX6_group 87 = .ok (.aload_n 0, 1) := by decide +kernel
theorem dX6_group_88 : decode cX6_group 88 = .ok (.getfield 25, 3) := by decide +kernel
theorem dX6_group_91 : decode cX6_group 91 = .ok (.aload_n 0, 1) := by decide +kernel
theorem dX6_group_92 : decode cX6_group 92 = .ok (.getfield 10, 3) := by decide +kernel
theorem dX6_group_95 : decode cX6_group 95 = .ok (.iload_n 1, 1) := by decide +kernel
theorem dX6_group_96 : decode cX6_group 96 = .ok (.invokevirtual 161, 3) := by decide +kernel
theorem dX6_group_99 : decode cX6_group 99 = .ok (.invokevirtual 230, 3) := by decide +kernel
theorem dX6_group_102 : decode cX6_group 102 = .ok (.invokestatic 259, 3) := by decide +kernel
theorem dX6_group_105 : decode cX6_group 105 = .ok (.ireturn, 1) := by decide +kernel
theorem dX6_group_106 : decode cX6_group 106 = .ok (.aload_n 0, 1) := by decide +kernel
theorem dX6_group_107 : decode cX6_group 107 = .ok (.getfield 32, 3) := by decide +kernel
theorem dX6_group_110 : decode cX6_group 110 = .ok (.getfield 167, 3) := by decide +kernel
theorem dX6_group_113 : decode cX6_group 113 = .ok (.iload_n 1, 1) := by decide +kernel
theorem dX6_group_114 : decode cX6_group 114 = .ok (.invokestatic 170, 3) := by decide +kernel
theorem dX6_group_117 : decode cX6_group 117 = .ok (.ireturn, 1) := by decide +kernel
theorem dX6_group_118 : decode cX6_group 118 = .ok (.aload_n 0, 1) := by decide +kernel
theorem dX6_group_119 : decode cX6_group 119 = .ok (.getfield 32, 3) := by decide +kernel
theorem dX6_group_122 : decode cX6_group 122 = .ok (.aload_n 0, 1) := by decide +kernel
theorem dX6_group_123 : decode cX6_group 123 = .ok (.getfield 10, 3) := by decide +kernel
theorem dX6_group_126 : decode cX6_group 126 = .ok (.aload_n 0, 1) := by decide +kernel
theorem dX6_group_127 : decode cX6_group 127 = .ok (.getfield 25, 3) := by decide +kernel
theorem dX6_group_130 : decode cX6_group 130 = .ok (.iload_n 1, 1) := by decide +kernel
theorem dX6_group_131 : decode cX6_group 131 = .ok (.invokevirtual 174, 3) := by decide +kernel
theorem dX6_group_134 : decode cX6_group 134 = .ok (.ireturn, 1) := by decide +kernel
theorem dX6_group_135 : decode cX6_group 135 = .ok (.aload_n 0, 1) := by decide +kernel
theorem dX6_group_136 : decode cX6_group 136 = .ok (.getfield 32, 3) := by decide +kernel
theorem dX6_group_139 : decode cX6_group 139 = .ok (.getfield 262, 3) := by decide +kernel
theorem dX6_group_142 : decode cX6_group 142 = .ok (.iload_n 1, 1) := by decide +kernel
theorem dX6_group_143 : decode cX6_group 143 = .ok (.invokestatic 170, 3) := by decide +kernel
theorem dX6_group_146 : decode cX6_group 146 = .ok (.ireturn, 1) := by decide +kernel
theorem dX6_group_147 : decode cX6_group 147 = .ok (.aload_n 0, 1) := by decide +kernel
theorem dX6_group_148 : decode cX6_group 148 = .ok (.bipush (-2), 2) := by decide +kernel
theorem dX6_group_150 : decode cX6_group 150 = .ok (.invokevirtual 72, 3) := by decide +kernel
theorem dX6_group_153 : decode cX6_group 153 = .ok (.ireturn, 1) := by decide +kernel
theorem dX6_envy_0 : decode cX6_envy 0 = .ok (.iload_n 1, 1) := by decide +kernel
theorem dX6_envy_1 : decode cX6_envy 1 = .ok (.invokestatic 93, 3) := by decide +kernel
theorem dX6_envy_4 : decode cX6_envy 4 = .ok (.ifCond .eq 15, 3) := by decide +kernel
theorem dX6_envy_7 : decode cX6_envy 7 = .ok (.iload_n 2, 1) := by decide +kernel
theorem dX6_envy_8 : decode cX6_envy 8 = .ok (.invokestatic 93, 3) := by decide +kernel
theorem dX6_envy_11 : decode cX6_envy 11 = .ok (.ifCond .eq 8, 3) := by decide +kernel
theorem dX6_envy_14 : decode cX6_envy 14 = .ok (.iload_n 1, 1) := by decide +kernel
theorem dX6_envy_15 : decode cX6_envy 15 = .ok (.iload_n 2, 1) := by decide +kernel
theorem dX6_envy_16 : decode cX6_envy 16 = .ok (.if_icmp .ne 9, 3) := by decide +kernel
theorem dX6_envy_19 : decode cX6_envy 19 = .ok (.aload_n 0, 1) := by decide +kernel
theorem dX6_envy_20 : decode cX6_envy 20 = .ok (.iconst (-1), 1) := by decide +kernel
theorem dX6_envy_21 : decode cX6_envy 21 = .ok (.invokevirtual 72, 3) := by decide +kernel
theorem dX6_envy_24 : decode cX6_envy 24 = .ok (.ireturn, 1) := by decide +kernel
theorem dX6_envy_25 : decode cX6_envy 25 = .ok (.aload_n 0, 1) := by decide +kernel
theorem dX6_envy_26 : decode cX6_envy 26 = .ok (.aload_n 0, 1) := by decide +kernel
theorem dX6_envy_27 : decode cX6_envy 27 = .ok (.getfield 10, 3) := by decide +kernel
theorem dX6_envy_30 : decode cX6_envy 30 = .ok (.invokevirtual 164, 3) := by decide +kernel
theorem dX6_envy_33 : decode cX6_envy 33 = .ok (.aload_n 0, 1) := by decide +kernel
theorem dX6_envy_34 : decode cX6_envy 34 = .ok (.getfield 10, 3) := by decide +kernel
theorem dX6_envy_37 : decode cX6_envy 37 = .ok (.aload_n 0, 1) := by decide +kernel
theorem dX6_envy_38 : decode cX6_envy 38 = .ok (.getfield 32, 3) := by decide +kernel
theorem dX6_envy_41 : decode cX6_envy 41 = .ok (.getfield 265, 3) := by decide +kernel
theorem dX6_envy_44 : decode cX6_envy 44 = .ok (.aload_n 0, 1) := by decide +kernel
theorem dX6_envy_45 : decode cX6_envy 45 = .ok (.getfield 10, 3) := by decide +kernel
theorem dX6_envy_48 : decode cX6_envy 48 = .ok (.iconst 1, 1) := by decide +kernel
theorem dX6_envy_49 : decode cX6_envy 49 = .ok (.iload_n 2, 1) := by decide +kernel
theorem dX6_envy_50 : decode cX6_envy 50 = .ok (.ishl, 1) := by decide +kernel
theorem dX6_envy_51 : decode cX6_envy 51 = .ok (.invokevirtual 161, 3) := by decide +kernel
theorem dX6_envy_54 : decode cX6_envy 54 = .ok (.iand, 1) := by decide +kernel
theorem dX6_envy_55 : decode cX6_envy 55 = .ok (.invokevirtual 190, 3) := by decide +kernel
theorem dX6_envy_58 : decode cX6_envy 58 = .ok (.istore_n 3, 1) := by decide +kernel
theorem dX6_envy_59 : decode cX6_envy 59 = .ok (.aload_n 0, 1) := by decide +kernel
theorem dX6_envy_60 : decode cX6_envy 60 = .ok (.getfield 10, 3) := by decide +kernel
theorem dX6_envy_63 : decode cX6_envy 63 = .ok (.iconst 1, 1) := by decide +kernel
theorem dX6_envy_64 : decode cX6_envy 64 = .ok (.iload_n 1, 1) := by decide +kernel
theorem dX6_envy_65 : decode cX6_envy 65 = .ok (.ishl, 1) := by decide +kernel
theorem dX6_envy_66 : decode cX6_envy 66 = .ok (.invokevirtual 161, 3) := by decide +kernel
theorem dX6_envy_69 : decode cX6_envy 69 = .ok (.aload_n 0, 1) := by decide +kernel
theorem dX6_envy_70 : decode cX6_envy 70 = .ok (.getfield 10, 3) := by decide +kernel
theorem dX6_envy_73 : decode cX6_envy 73 = .ok (.bipush 63, 2) := by decide +kernel
theorem dX6_envy_75 : decode cX6_envy 75 = .ok (.iload_n 3, 1) := by decide +kernel
theorem dX6_envy_76 : decode cX6_envy 76 = .ok (.iconst (-1), 1) := by decide +kernel
theorem dX6_envy_77 : decode cX6_envy 77 = .ok (.ixor, 1) := by decide +kernel
theorem dX6_envy_78 : decode cX6_envy 78 = .ok (.iand, 1) := by decide +kernel
theorem dX6_envy_79 : decode cX6_envy 79 = .ok (.invokevirtual 208, 3) := by decide +kernel
theorem dX6_envy_82 : decode cX6_envy 82 = .ok (.iconst (-1), 1) := by decide +kernel
theorem dX6_envy_83 : decode cX6_envy 83 = .ok (.ixor, 1) := by decide +kernel
theorem dX6_envy_84 : decode cX6_envy 84 = .ok (.iand, 1) := by decide +kernel
theorem dX6_envy_85 : decode cX6_envy 85 = .ok (.istore 4, 2) := by decide +kernel
theorem dX6_envy_87 : decode cX6_envy 87 = .ok (.aload_n 0, 1) := by decide +kernel
theorem dX6_envy_88 : decode cX6_envy 88 = .ok (.getfield 25, 3) := by decide +kernel
theorem dX6_envy_91 : decode cX6_envy 91 = .ok (.aload_n 0, 1) := by decide +kernel
theorem dX6_envy_92 : decode cX6_envy 92 = .ok (.getfield 10, 3) := by decide +kernel
theorem dX6_envy_95 : decode cX6_envy 95 = .ok (.iload 4, 2) := by decide +kernel
theorem dX6_envy_97 : decode cX6_envy 97 = .ok (.invokevirtual 268, 3) := by decide +kernel
theorem dX6_envy_100 : decode cX6_envy 100 = .ok (.istore 5, 2) := by decide +kernel
theorem dX6_envy_102 : decode cX6_envy 102 = .ok (.aload_n 0, 1) := by decide +kernel
theorem dX6_envy_103 : decode cX6_envy 103 = .ok (.getfield 32, 3) := by decide +kernel
theorem dX6_envy_106 : decode cX6_envy 106 = .ok (.iconst 0, 1) := by decide +kernel
theorem dX6_envy_107 : decode cX6_envy 107 = .ok (.iload_n 1, 1) := by decide +kernel
theorem dX6_envy_108 : decode cX6_envy 108 = .ok (.invokevirtual 239, 3) := by decide +kernel
theorem dX6_envy_111 : decode cX6_envy 111 = .ok (.aload_n 0, 1) := by decide +kernel
theorem dX6_envy_112 : decode cX6_envy 112 = .ok (.getfield 32, 3) := by decide +kernel
theorem dX6_envy_115 : decode cX6_envy 115 = .ok (.iconst 1, 1) := by decide +kernel
theorem dX6_envy_116 : decode cX6_envy 116 = .ok (.iload_n 1, 1) := by decide +kernel
theorem dX6_envy_117 : decode cX6_envy 117 = .ok (.invokevirtual 239, 3) := by decide +kernel
theorem dX6_envy_120 : decode cX6_envy 120 = .ok (.isub, 1) := by decide +kernel
theorem dX6_envy_121 : decode cX6_envy 121 = .ok (.istore 6, 2) := by decide +kernel
theorem dX6_envy_123 : decode cX6_envy 123 = .ok (.iconst 0, 1) := by decide +kernel
theorem dX6_envy_124 : decode cX6_envy 124 = .ok (.iload 5, 2) := by decide +kernel
theorem dX6_envy_126 : decode cX6_envy 126 = .ok (.aload_n 0, 1) := by decide +kernel
theorem dX6_envy_127 : decode cX6_envy 127 = .ok (.getfield 32, 3) := by decide +kernel
theorem dX6_envy_130 : decode cX6_envy 130 = .ok (.iconst 1, 1) := by decide +kernel
theorem dX6_envy_131 : decode cX6_envy 131 = .ok (.iload_n 2, 1) := by decide +kernel
theorem dX6_envy_132 : decode cX6_envy 132 = .ok (.invokevirtual 239, 3) := by decide +kernel
theorem dX6_envy_135 : decode cX6_envy 135 = .ok (.isub, 1) := by decide +kernel
theorem dX6_envy_136 : decode cX6_envy 136 = .ok (.iload 6, 2) := by decide +kernel
theorem dX6_envy_138 : decode cX6_envy 138 = .ok (.isub, 1) := by decide +kernel
theorem dX6_envy_139 : decode cX6_envy 139 = .ok (.invokestatic 225, 3) := by decide +kernel
theorem dX6_envy_142 : decode cX6_envy 142 = .ok (.ireturn, 1) := by decide +kernel
theorem dX6_gain_0 : decode cX6_gain 0 = .ok (.iload_n 1, 1) := by decide +kernel
theorem dX6_gain_1 : decode cX6_gain 1 = .ok (.invokestatic 93, 3) := by decide +kernel
theorem dX6_gain_4 : decode cX6_gain 4 = .ok (.ifCond .ne 13, 3) := by decide +kernel
theorem dX6_gain_7 : decode cX6_gain 7 = .ok (.ldc_w 272, 3) := by decide +kernel
theorem dX6_gain_10 : decode cX6_gain 10 = .ok (.aload_n 0, 1) := by decide +kernel
theorem dX6_gain_11 : decode cX6_gain 11 = .ok (.iconst (-1), 1) := by decide +kernel
theorem dX6_gain_12 : decode cX6_gain 12 = .ok (.invokevirtual 72, 3) := by decide +kernel
theorem dX6_gain_15 : decode cX6_gain 15 = .ok (.iadd, 1) := by decide +kernel
theorem dX6_gain_16 : decode cX6_gain 16 = .ok (.ireturn, 1) := by decide +kernel
theorem dX6_gain_17 : decode cX6_gain 17 = .ok (.aload_n 0, 1) := by decide +kernel
theorem dX6_gain_18 : decode cX6_gain 18 = .ok (.aload_n 0, 1) := by decide +kernel
theorem dX6_gain_19 : decode cX6_gain 19 = .ok (.getfield 10, 3) := by decide +kernel
theorem dX6_gain_22 : decode cX6_gain 22 = .ok (.invokevirtual 164, 3) := by decide +kernel
theorem dX6_gain_25 : decode cX6_gain 25 = .ok (.aload_n 0, 1) := by decide +kernel
theorem dX6_gain_26 : decode cX6_gain 26 = .ok (.getfield 32, 3) := by decide +kernel
theorem dX6_gain_29 : decode cX6_gain 29 = .ok (.iconst 0, 1) := by decide +kernel
theorem dX6_gain_30 : decode cX6_gain 30 = .ok (.iload_n 1, 1) := by decide +kernel
theorem dX6_gain_31 : decode cX6_gain 31 = .ok (.invokevirtual 239, 3) := by decide +kernel
theorem dX6_gain_34 : decode cX6_gain 34 = .ok (.aload_n 0, 1) := by decide +kernel
theorem dX6_gain_35 : decode cX6_gain 35 = .ok (.getfield 32, 3) := by decide +kernel
theorem dX6_gain_38 : decode cX6_gain 38 = .ok (.iconst 1, 1) := by decide +kernel
theorem dX6_gain_39 : decode cX6_gain 39 = .ok (.iload_n 1, 1) := by decide +kernel
theorem dX6_gain_40 : decode cX6_gain 40 = .ok (.invokevirtual 239, 3) := by decide +kernel
theorem dX6_gain_43 : decode cX6_gain 43 = .ok (.isub, 1) := by decide +kernel
theorem dX6_gain_44 : decode cX6_gain 44 = .ok (.istore_n 2, 1) := by decide +kernel
theorem dX6_gain_45 : decode cX6_gain 45 = .ok (.aload_n 0, 1) := by decide +kernel
theorem dX6_gain_46 : decode cX6_gain 46 = .ok (.iload_n 1, 1) := by decide +kernel
theorem dX6_gain_47 : decode cX6_gain 47 = .ok (.invokevirtual 273, 3) := by decide +kernel
theorem dX6_gain_50 : decode cX6_gain 50 = .ok (.iload_n 2, 1) := by decide +kernel
theorem dX6_gain_51 : decode cX6_gain 51 = .ok (.isub, 1) := by decide +kernel
theorem dX6_gain_52 : decode cX6_gain 52 = .ok (.ireturn, 1) := by decide +kernel
theorem dX6_without_0 : decode cX6_without 0 = .ok (.aload_n 0, 1) := by decide +kernel
theorem dX6_without_1 : decode cX6_without 1 = .ok (.getfield 10, 3) := by decide +kernel
theorem dX6_without_4 : decode cX6_without 4 = .ok (.iload_n 1, 1) := by decide +kernel
theorem dX6_without_5 : decode cX6_without 5 = .ok (.invokevirtual 105, 3) := by decide +kernel
theorem dX6_without_8 : decode cX6_without 8 = .ok (.ifCond .ne 9, 3) := by decide +kernel
theorem dX6_without_11 : decode cX6_without 11 = .ok (.aload_n 0, 1) := by decide +kernel
theorem dX6_without_12 : decode cX6_without 12 = .ok (.iconst (-1), 1) := by decide +kernel
theorem dX6_without_13 : decode cX6_without 13 = .ok (.invokevirtual 72, 3) := by decide +kernel
theorem dX6_without_16 : decode cX6_without 16 = .ok (.ireturn, 1) := by decide +kernel
theorem dX6_without_17 : decode cX6_without 17 = .ok (.aload_n 0, 1) := by decide +kernel
theorem dX6_without_18 : decode cX6_without 18 = .ok (.getfield 25, 3) := by decide +kernel
theorem dX6_without_21 : decode cX6_without 21 = .ok (.aload_n 0, 1) := by decide +kernel
theorem dX6_without_22 : decode cX6_without 22 = .ok (.getfield 10, 3) := by decide +kernel
theorem dX6_without_25 : decode cX6_without 25 = .ok (.invokevirtual 181, 3) := by decide +kernel
theorem dX6_without_28 : decode cX6_without 28 = .ok (.aload_n 0, 1) := by decide +kernel
theorem dX6_without_29 : decode cX6_without 29 = .ok (.getfield 25, 3) := by decide +kernel
theorem dX6_without_32 : decode cX6_without 32 = .ok (.sipush 1023, 3) := by decide +kernel
theorem dX6_without_35 : decode cX6_without 35 = .ok (.iconst 1, 1) := by decide +kernel
theorem dX6_without_36 : decode cX6_without 36 = .ok (.iload_n 1, 1) := by decide +kernel
theorem dX6_without_37 : decode cX6_without 37 = .ok (.ishl, 1) := by decide +kernel
theorem dX6_without_38 : decode cX6_without 38 = .ok (.iconst (-1), 1) := by decide +kernel
theorem dX6_without_39 : decode cX6_without 39 = .ok (.ixor, 1) := by decide +kernel
theorem dX6_without_40 : decode cX6_without 40 = .ok (.iand, 1) := by decide +kernel
theorem dX6_without_41 : decode cX6_without 41 = .ok (.invokevirtual 230, 3) := by decide +kernel
theorem dX6_without_44 : decode cX6_without 44 = .ok (.invokestatic 256, 3) := by decide +kernel
theorem dX6_without_47 : decode cX6_without 47 = .ok (.ireturn, 1) := by decide +kernel
theorem dX6_least_0 : decode cX6_least 0 = .ok (.aload_n 0, 1) := by decide +kernel
theorem dX6_least_1 : decode cX6_least 1 = .ok (.getfield 10, 3) := by decide +kernel
theorem dX6_least_4 : decode cX6_least 4 = .ok (.iload_n 1, 1) := by decide +kernel
theorem dX6_least_5 : decode cX6_least 5 = .ok (.invokevirtual 105, 3) := by decide +kernel
theorem dX6_least_8 : decode cX6_least 8 = .ok (.ifCond .ne 9, 3) := by decide +kernel
theorem dX6_least_11 : decode cX6_least 11 = .ok (.aload_n 0, 1) := by decide +kernel
theorem dX6_least_12 : decode cX6_least 12 = .ok (.iconst (-1), 1) := by decide +kernel
theorem dX6_least_13 : decode cX6_least 13 = .ok (.invokevirtual 72, 3) := by decide +kernel
theorem dX6_least_16 : decode cX6_least 16 = .ok (.ireturn, 1) := by decide +kernel
theorem dX6_least_17 : decode cX6_least 17 = .ok (.aload_n 0, 1) := by decide +kernel
theorem dX6_least_18 : decode cX6_least 18 = .ok (.getfield 19, 3) := by decide +kernel
theorem dX6_least_21 : decode cX6_least 21 = .ok (.aload_n 0, 1) := by decide +kernel
theorem dX6_least_22 : decode cX6_least 22 = .ok (.getfield 10, 3) := by decide +kernel
theorem dX6_least_25 : decode cX6_least 25 = .ok (.invokevirtual 276, 3) := by decide +kernel
theorem dX6_least_28 : decode cX6_least 28 = .ok (.aload_n 0, 1) := by decide +kernel
theorem dX6_least_29 : decode cX6_least 29 = .ok (.getfield 19, 3) := by decide +kernel
theorem dX6_least_32 : decode cX6_least 32 = .ok (.dup, 1) := by decide +kernel
theorem dX6_least_33 : decode cX6_least 33 = .ok (.getfield 112, 3) := by decide +kernel
theorem dX6_least_36 : decode cX6_least 36 = .ok (.iconst 1, 1) := by decide +kernel
theorem dX6_least_37 : decode cX6_least 37 = .ok (.iload_n 1, 1) := by decide +kernel
theorem dX6_least_38 : decode cX6_least 38 = .ok (.ishl, 1) := by decide +kernel
theorem dX6_least_39 : decode cX6_least 39 = .ok (.ior, 1) := by decide +kernel
theorem dX6_least_40 : decode cX6_least 40 = .ok (.putfield 112, 3) := by decide +kernel
theorem dX6_least_43 : decode cX6_least 43 = .ok (.iconst 1, 1) := by decide +kernel
theorem dX6_least_44 : decode cX6_least 44 = .ok (.istore_n 2, 1) := by decide +kernel
theorem dX6_least_45 : decode cX6_least 45 = .ok (.iload_n 2, 1) := by decide +kernel
theorem dX6_least_46 : decode cX6_least 46 = .ok (.bipush 99, 2) := by decide +kernel
theorem dX6_least_48 : decode cX6_least 48 = .ok (.if_icmp .gt 36, 3) := by decide +kernel
theorem dX6_least_51 : decode cX6_least 51 = .ok (.aload_n 0, 1) := by decide +kernel
theorem dX6_least_52 : decode cX6_least 52 = .ok (.getfield 19, 3) := by decide +kernel
theorem dX6_least_55 : decode cX6_least 55 = .ok (.iload_n 1, 1) := by decide +kernel
theorem dX6_least_56 : decode cX6_least 56 = .ok (.iload_n 2, 1) := by decide +kernel
theorem dX6_least_57 : decode cX6_least 57 = .ok (.invokevirtual 122, 3) := by decide +kernel
theorem dX6_least_60 : decode cX6_least 60 = .ok (.aload_n 0, 1) := by decide +kernel
theorem dX6_least_61 : decode cX6_least 61 = .ok (.aload_n 0, 1) := by decide +kernel
theorem dX6_least_62 : decode cX6_least 62 = .ok (.getfield 19, 3) := by decide +kernel
theorem dX6_least_65 : decode cX6_least 65 = .ok (.invokevirtual 150, 3) := by decide +kernel
theorem dX6_least_68 : decode cX6_least 68 = .ok (.iload_n 1, 1) := by decide +kernel
theorem dX6_least_69 : decode cX6_least 69 = .ok (.invokestatic 115, 3) := by decide +kernel
theorem dX6_least_72 : decode cX6_least 72 = .ok (.iconst 1, 1) := by decide +kernel
theorem dX6_least_73 : decode cX6_least 73 = .ok (.if_icmp .ne 5, 3) := by decide +kernel
theorem dX6_least_76 : decode cX6_least 76 = .ok (.iload_n 2, 1) := by decide +kernel
theorem dX6_least_77 : decode cX6_least 77 = .ok (.ireturn, 1) := by decide +kernel
theorem dX6_least_78 : decode cX6_least 78 = .ok (.iinc 2 1, 3) := by decide +kernel
theorem dX6_least_81 : decode cX6_least 81 = .ok (.goto (-36), 3) := by decide +kernel
theorem dX6_least_84 : decode cX6_least 84 = .ok (.bipush (-9), 2) := by decide +kernel
theorem dX6_least_86 : decode cX6_least 86 = .ok (.ireturn, 1) := by decide +kernel
theorem dX6_tight_0 : decode cX6_tight 0 = .ok (.aload_n 0, 1) := by decide +kernel
theorem dX6_tight_1 : decode cX6_tight 1 = .ok (.aload_n 0, 1) := by decide +kernel
theorem dX6_tight_2 : decode cX6_tight 2 = .ok (.getfield 10, 3) := by decide +kernel
theorem dX6_tight_5 : decode cX6_tight 5 = .ok (.invokevirtual 150, 3) := by decide +kernel
theorem dX6_tight_8 : decode cX6_tight 8 = .ok (.istore_n 1, 1) := by decide +kernel
theorem dX6_tight_9 : decode cX6_tight 9 = .ok (.iconst 0, 1) := by decide +kernel
theorem dX6_tight_10 : decode cX6_tight 10 = .ok (.istore_n 2, 1) := by decide +kernel
theorem dX6_tight_11 : decode cX6_tight 11 = .ok (.iconst 0, 1) := by decide +kernel
theorem dX6_tight_12 : decode cX6_tight 12 = .ok (.istore_n 3, 1) := by decide +kernel
theorem dX6_tight_13 : decode cX6_tight 13 = .ok (.iload_n 3, 1) := by decide +kernel
theorem dX6_tight_14 : decode cX6_tight 14 = .ok (.aload_n 0, 1) := by decide +kernel
theorem dX6_tight_15 : decode cX6_tight 15 = .ok (.getfield 10, 3) := by decide +kernel
theorem dX6_tight_18 : decode cX6_tight 18 = .ok (.getfield 102, 3) := by decide +kernel
theorem dX6_tight_21 : decode cX6_tight 21 = .ok (.if_icmp .ge 64, 3) := by decide +kernel
theorem dX6_tight_24 : decode cX6_tight 24 = .ok (.iload_n 1, 1) := by decide +kernel
theorem dX6_tight_25 : decode cX6_tight 25 = .ok (.iload_n 3, 1) := by decide +kernel
theorem dX6_tight_26 : decode cX6_tight 26 = .ok (.invokestatic 115, 3) := by decide +kernel
theorem dX6_tight_29 : decode cX6_tight 29 = .ok (.iconst 1, 1) := by decide +kernel
theorem dX6_tight_30 : decode cX6_tight 30 = .ok (.if_icmp .ne 49, 3) := by decide +kernel
theorem dX6_tight_33 : decode cX6_tight 33 = .ok (.aload_n 0, 1) := by decide +kernel
theorem dX6_tight_34 : decode cX6_tight 34 = .ok (.getfield 19, 3) := by decide +kernel
theorem dX6_tight_37 : decode cX6_tight 37 = .ok (.aload_n 0, 1) := by decide +kernel
theorem dX6_tight_38 : decode cX6_tight 38 = .ok (.getfield 10, 3) := by decide +kernel
theorem dX6_tight_41 : decode cX6_tight 41 = .ok (.invokevirtual 276, 3) := by decide +kernel
theorem dX6_tight_44 : decode cX6_tight 44 = .ok (.aload_n 0, 1) := by decide +kernel
theorem dX6_tight_45 : decode cX6_tight 45 = .ok (.getfield 19, 3) := by decide +kernel
theorem dX6_tight_48 : decode cX6_tight 48 = .ok (.iload_n 3, 1) := by decide +kernel
theorem dX6_tight_49 : decode cX6_tight 49 = .ok (.aload_n 0, 1) := by decide +kernel
theorem dX6_tight_50 : decode cX6_tight 50 = .ok (.getfield 10, 3) := by decide +kernel
theorem dX6_tight_53 : decode cX6_tight 53 = .ok (.iload_n 3, 1) := by decide +kernel
theorem dX6_tight_54 : decode cX6_tight 54 = .ok (.invokevirtual 119, 3) := by decide +kernel
theorem dX6_tight_57 : decode cX6_tight 57 = .ok (.iconst 1, 1) := by decide +kernel
theorem dX6_tight_58 : decode cX6_tight 58 = .ok (.isub, 1) := by decide +kernel
theorem dX6_tight_59 : decode cX6_tight 59 = .ok (.invokevirtual 122, 3) := by decide +kernel
theorem dX6_tight_62 : decode cX6_tight 62 = .ok (.iload_n 2, 1) := by decide +kernel
theorem dX6_tight_63 : decode cX6_tight 63 = .ok (.iconst 1, 1) := by decide +kernel
theorem dX6_tight_64 : decode cX6_tight 64 = .ok (.iload_n 3, 1) := by decide +kernel
theorem dX6_tight_65 : decode cX6_tight 65 = .ok (.ishl, 1) := by decide +kernel
theorem dX6_tight_66 : decode cX6_tight 66 = .ok (.aload_n 0, 1) := by decide +kernel
theorem dX6_tight_67 : decode cX6_tight 67 = .ok (.aload_n 0, 1) := by decide +kernel
theorem dX6_tight_68 : decode cX6_tight 68 = .ok (.getfield 19, 3) := by decide +kernel
theorem dX6_tight_71 : decode cX6_tight 71 = .ok (.invokevirtual 150, 3) := by decide +kernel
theorem dX6_tight_74 : decode cX6_tight 74 = .ok (.iconst (-1), 1) := by decide +kernel
theorem dX6_tight_75 : decode cX6_tight 75 = .ok (.ixor, 1) := by decide +kernel
theorem dX6_tight_76 : decode cX6_tight 76 = .ok (.iand, 1) := by decide +kernel
theorem dX6_tight_77 : decode cX6_tight 77 = .ok (.ior, 1) := by decide +kernel
theorem dX6_tight_78 : decode cX6_tight 78 = .ok (.istore_n 2, 1) := by decide +kernel
theorem dX6_tight_79 : decode cX6_tight 79 = .ok (.iinc 3 1, 3) := by decide +kernel
theorem dX6_tight_82 : decode cX6_tight 82 = .ok (.goto (-69), 3) := by decide +kernel
theorem dX6_tight_85 : decode cX6_tight 85 = .ok (.iload_n 2, 1) := by decide +kernel
theorem dX6_tight_86 : decode cX6_tight 86 = .ok (.ireturn, 1) := by decide +kernel
theorem dX6_missing_0 : decode cX6_missing 0 = .ok (.aload_n 0, 1) := by decide +kernel
theorem dX6_missing_1 : decode cX6_missing 1 = .ok (.getfield 10, 3) := by decide +kernel
theorem dX6_missing_4 : decode cX6_missing 4 = .ok (.iload_n 1, 1) := by decide +kernel
theorem dX6_missing_5 : decode cX6_missing 5 = .ok (.invokevirtual 105, 3) := by decide +kernel
theorem dX6_missing_8 : decode cX6_missing 8 = .ok (.ifCond .ne 9, 3) := by decide +kernel
theorem dX6_missing_11 : decode cX6_missing 11 = .ok (.aload_n 0, 1) := by decide +kernel
theorem dX6_missing_12 : decode cX6_missing 12 = .ok (.iconst (-1), 1) := by decide +kernel
theorem dX6_missing_13 : decode cX6_missing 13 = .ok (.invokevirtual 279, 3) := by decide +kernel
theorem dX6_missing_16 : decode cX6_missing 16 = .ok (.lreturn, 1) := by decide +kernel
theorem dX6_missing_17 : decode cX6_missing 17 = .ok (.iload_n 2, 1) := by decide +kernel
theorem dX6_missing_18 : decode cX6_missing 18 = .ok (.iconst 2, 1) := by decide +kernel
theorem dX6_missing_19 : decode cX6_missing 19 = .ok (.if_icmp .ge 10, 3) := by decide +kernel
theorem dX6_missing_22 : decode cX6_missing 22 = .ok (.aload_n 0, 1) := by decide +kernel
theorem dX6_missing_23 : decode cX6_missing 23 = .ok (.bipush (-4), 2) := by decide +kernel
theorem dX6_missing_25 : decode cX6_missing 25 = .ok (.invokevirtual 279, 3) := by decide +kernel
theorem dX6_missing_28 : decode cX6_missing 28 = .ok (.lreturn, 1) := by decide +kernel
theorem dX6_missing_29 : decode cX6_missing 29 = .ok (.iload_n 2, 1) := by decide +kernel
theorem dX6_missing_30 : decode cX6_missing 30 = .ok (.bipush 20, 2) := by decide +kernel
theorem dX6_missing_32 : decode cX6_missing 32 = .ok (.if_icmp .le 10, 3) := by decide +kernel
theorem dX6_missing_35 : decode cX6_missing 35 = .ok (.aload_n 0, 1) := by decide +kernel
theorem dX6_missing_36 : decode cX6_missing 36 = .ok (.bipush (-6), 2) := by decide +kernel
theorem dX6_missing_38 : decode cX6_missing 38 = .ok (.invokevirtual 279, 3) := by decide +kernel
theorem dX6_missing_41 : decode cX6_missing 41 = .ok (.lreturn, 1) := by decide +kernel
theorem dX6_missing_42 : decode cX6_missing 42 = .ok (.iload_n 3, 1) := by decide +kernel
theorem dX6_missing_43 : decode cX6_missing 43 = .ok (.invokestatic 196, 3) := by decide +kernel
theorem dX6_missing_46 : decode cX6_missing 46 = .ok (.ifCond .ne 10, 3) := by decide +kernel
theorem dX6_missing_49 : decode cX6_missing 49 = .ok (.aload_n 0, 1) := by decide +kernel
theorem dX6_missing_50 : decode cX6_missing 50 = .ok (.bipush (-2), 2) := by decide +kernel
theorem dX6_missing_52 : decode cX6_missing 52 = .ok (.invokevirtual 279, 3) := by decide +kernel
theorem dX6_missing_55 : decode cX6_missing 55 = .ok (.lreturn, 1) := by decide +kernel
theorem dX6_missing_56 : decode cX6_missing 56 = .ok (.aload_n 0, 1) := by decide +kernel
theorem dX6_missing_57 : decode cX6_missing 57 = .ok (.getfield 25, 3) := by decide +kernel
theorem dX6_missing_60 : decode cX6_missing 60 = .ok (.aload_n 0, 1) := by decide +kernel
theorem dX6_missing_61 : decode cX6_missing 61 = .ok (.getfield 10, 3) := by decide +kernel
theorem dX6_missing_64 : decode cX6_missing 64 = .ok (.invokevirtual 181, 3) := by decide +kernel
theorem dX6_missing_67 : decode cX6_missing 67 = .ok (.lconst 0, 1) := by decide +kernel
theorem dX6_missing_68 : decode cX6_missing 68 = .ok (.lstore 4, 2) := by decide +kernel
theorem dX6_missing_70 : decode cX6_missing 70 = .ok (.iconst 0, 1) := by decide +kernel
theorem dX6_missing_71 : decode cX6_missing 71 = .ok (.istore 6, 2) := by decide +kernel
theorem dX6_missing_73 : decode cX6_missing 73 = .ok (.iload 6, 2) := by decide +kernel
theorem dX6_missing_75 : decode cX6_missing 75 = .ok (.sipush 1023, 3) := by decide +kernel
theorem dX6_missing_78 : decode cX6_missing 78 = .ok (.if_icmp .gt 73, 3) := by decide +kernel
theorem dX6_missing_81 : decode cX6_missing 81 = .ok (.iload 6, 2) := by decide +kernel
theorem dX6_missing_83 : decode cX6_missing 83 = .ok (.aload_n 0, 1) := by decide +kernel
theorem dX6_missing_84 : decode cX6_missing 84 = .ok (.getfield 10, 3) := by decide +kernel
theorem dX6_missing_87 : decode cX6_missing 87 = .ok (.getfield 112, 3) := by decide +kernel
theorem dX6_missing_90 : decode cX6_missing 90 = .ok (.iconst (-1), 1) := by decide +kernel
theorem dX6_missing_91 : decode cX6_missing 91 = .ok (.ixor, 1) := by decide +kernel
theorem dX6_missing_92 : decode cX6_missing 92 = .ok (.iand, 1) := by decide +kernel
theorem dX6_missing_93 : decode cX6_missing 93 = .ok (.ifCond .ne 7, 3) := by decide +kernel
theorem dX6_missing_96 : decode cX6_missing 96 = .ok (.iconst 1, 1) := by decide +kernel
theorem dX6_missing_97 : decode cX6_missing 97 = .ok (.goto 4, 3) := by decide +kernel
theorem dX6_missing_100 : decode cX6_missing 100 = .ok (.iconst 0, 1) := by decide +kernel
theorem dX6_missing_101 : decode cX6_missing 101 = .ok (.istore 7, 2) := by decide +kernel
theorem dX6_missing_103 : decode cX6_missing 103 = .ok (.iload 7, 2) := by decide +kernel
theorem dX6_missing_105 : decode cX6_missing 105 = .ok (.ifCond .eq 40, 3) := by decide +kernel
theorem dX6_missing_108 : decode cX6_missing 108 = .ok (.aload_n 0, 1) := by decide +kernel
theorem dX6_missing_109 : decode cX6_missing 109 = .ok (.getfield 25, 3) := by decide +kernel
theorem dX6_missing_112 : decode cX6_missing 112 = .ok (.iload 6, 2) := by decide +kernel
theorem dX6_missing_114 : decode cX6_missing 114 = .ok (.invokevirtual 230, 3) := by decide +kernel
theorem dX6_missing_117 : decode cX6_missing 117 = .ok (.invokestatic 259, 3) := by decide +kernel
theorem dX6_missing_120 : decode cX6_missing 120 = .ok (.iload_n 1, 1) := by decide +kernel
theorem dX6_missing_121 : decode cX6_missing 121 = .ok (.invokestatic 115, 3) := by decide +kernel
theorem dX6_missing_124 : decode cX6_missing 124 = .ok (.iconst 1, 1) := by decide +kernel
theorem dX6_missing_125 : decode cX6_missing 125 = .ok (.if_icmp .ne 20, 3) := by decide +kernel
theorem dX6_missing_128 : decode cX6_missing 128 = .ok (.lload 4, 2) := by decide +kernel
theorem dX6_missing_130 : decode cX6_missing 130 = .ok (.iload_n 2, 1) := by decide +kernel
theorem dX6_missing_131 : decode cX6_missing 131 = .ok (.iconst 1, 1) := by decide +kernel
theorem dX6_missing_132 : decode cX6_missing 132 = .ok (.isub, 1) := by decide +kernel
theorem dX6_missing_133 : decode cX6_missing 133 = .ok (.i2l, 1) := by decide +kernel
theorem dX6_missing_134 : decode cX6_missing 134 = .ok (.iload 6, 2) := by decide +kernel
theorem dX6_missing_136 : decode cX6_missing 136 = .ok (.invokestatic 217, 3) := by decide +kernel
theorem dX6_missing_139 : decode cX6_missing 139 = .ok (.invokestatic 283, 3) := by decide +kernel
theorem dX6_missing_142 : decode cX6_missing 142 = .ok (.ladd, 1) := by decide +kernel
theorem dX6_missing_143 : decode cX6_missing 143 = .ok (.lstore 4, 2) := by decide +kernel
theorem dX6_missing_145 : decode cX6_missing 145 = .ok (.iinc 6 1, 3) := by decide +kernel
theorem dX6_missing_148 : decode cX6_missing 148 = .ok (.goto (-75), 3) := by decide +kernel
theorem dX6_missing_151 : decode cX6_missing 151 = .ok (.lload 4, 2) := by decide +kernel
theorem dX6_missing_153 : decode cX6_missing 153 = .ok (.iload_n 2, 1) := by decide +kernel
theorem dX6_missing_154 : decode cX6_missing 154 = .ok (.i2l, 1) := by decide +kernel
theorem dX6_missing_155 : decode cX6_missing 155 = .ok (.aload_n 0, 1) := by decide +kernel
theorem dX6_missing_156 : decode cX6_missing 156 = .ok (.getfield 10, 3) := by decide +kernel
theorem dX6_missing_159 : decode cX6_missing 159 = .ok (.getfield 112, 3) := by decide +kernel
theorem dX6_missing_162 : decode cX6_missing 162 = .ok (.invokestatic 217, 3) := by decide +kernel
theorem dX6_missing_165 : decode cX6_missing 165 = .ok (.invokestatic 283, 3) := by decide +kernel
theorem dX6_missing_168 : decode cX6_missing 168 = .ok (.iload_n 3, 1) := by decide +kernel
theorem dX6_missing_169 : decode cX6_missing 169 = .ok (.invokestatic 287, 3) := by decide +kernel
theorem dX6_missing_172 : decode cX6_missing 172 = .ok (.lreturn, 1) := by decide +kernel
theorem dX6_mean_0 : decode cX6_mean 0 = .ok (.iload_n 1, 1) := by decide +kernel
theorem dX6_mean_1 : decode cX6_mean 1 = .ok (.invokestatic 233, 3) := by decide +kernel
theorem dX6_mean_4 : decode cX6_mean 4 = .ok (.ifCond .eq 10, 3) := by decide +kernel
theorem dX6_mean_7 : decode cX6_mean 7 = .ok (.iload_n 2, 1) := by decide +kernel
theorem dX6_mean_8 : decode cX6_mean 8 = .ok (.invokestatic 196, 3) := by decide +kernel
theorem dX6_mean_11 : decode cX6_mean 11 = .ok (.ifCond .ne 10, 3) := by decide +kernel
theorem dX6_mean_14 : decode cX6_mean 14 = .ok (.aload_n 0, 1) := by decide +kernel
theorem dX6_mean_15 : decode cX6_mean 15 = .ok (.bipush (-2), 2) := by decide +kernel
theorem dX6_mean_17 : decode cX6_mean 17 = .ok (.invokevirtual 279, 3) := by decide +kernel
theorem dX6_mean_20 : decode cX6_mean 20 = .ok (.lreturn, 1) := by decide +kernel
theorem dX6_mean_21 : decode cX6_mean 21 = .ok (.aload_n 0, 1) := by decide +kernel
theorem dX6_mean_22 : decode cX6_mean 22 = .ok (.invokevirtual 236, 3) := by decide +kernel
theorem dX6_mean_25 : decode cX6_mean 25 = .ok (.aload_n 0, 1) := by decide +kernel
theorem dX6_mean_26 : decode cX6_mean 26 = .ok (.getfield 32, 3) := by decide +kernel
theorem dX6_mean_29 : decode cX6_mean 29 = .ok (.iload_n 1, 1) := by decide +kernel
theorem dX6_mean_30 : decode cX6_mean 30 = .ok (.invokevirtual 242, 3) := by decide +kernel
theorem dX6_mean_33 : decode cX6_mean 33 = .ok (.bipush 31, 2) := by decide +kernel
theorem dX6_mean_35 : decode cX6_mean 35 = .ok (.invokestatic 170, 3) := by decide +kernel
theorem dX6_mean_38 : decode cX6_mean 38 = .ok (.i2l, 1) := by decide +kernel
theorem dX6_mean_39 : decode cX6_mean 39 = .ok (.aload_n 0, 1) := by decide +kernel
theorem dX6_mean_40 : decode cX6_mean 40 = .ok (.getfield 32, 3) := by decide +kernel
theorem dX6_mean_43 : decode cX6_mean 43 = .ok (.invokevirtual 291, 3) := by decide +kernel
theorem dX6_mean_46 : decode cX6_mean 46 = .ok (.invokestatic 217, 3) := by decide +kernel
theorem dX6_mean_49 : decode cX6_mean 49 = .ok (.i2l, 1) := by decide +kernel
theorem dX6_mean_50 : decode cX6_mean 50 = .ok (.iload_n 2, 1) := by decide +kernel
theorem dX6_mean_51 : decode cX6_mean 51 = .ok (.invokestatic 287, 3) := by decide +kernel
theorem dX6_mean_54 : decode cX6_mean 54 = .ok (.lreturn, 1) := by decide +kernel
theorem dX6_printed_0 : decode cX6_printed 0 = .ok (.iload_n 1, 1) := by decide +kernel
theorem dX6_printed_1 : decode cX6_printed 1 = .ok (.iconst (-1), 1) := by decide +kernel
theorem dX6_printed_2 : decode cX6_printed 2 = .ok (.if_icmp .ge 10, 3) := by decide +kernel
theorem dX6_printed_5 : decode cX6_printed 5 = .ok (.aload_n 0, 1) := by decide +kernel
theorem dX6_printed_6 : decode cX6_printed 6 = .ok (.bipush (-4), 2) := by decide +kernel
theorem dX6_printed_8 : decode cX6_printed 8 = .ok (.invokevirtual 72, 3) := by decide +kernel
theorem dX6_printed_11 : decode cX6_printed 11 = .ok (.ireturn, 1) := by decide +kernel
theorem dX6_printed_12 : decode cX6_printed 12 = .ok (.aload_n 0, 1) := by decide +kernel
theorem dX6_printed_13 : decode cX6_printed 13 = .ok (.getfield 25, 3) := by decide +kernel
theorem dX6_printed_16 : decode cX6_printed 16 = .ok (.aload_n 0, 1) := by decide +kernel
theorem dX6_printed_17 : decode cX6_printed 17 = .ok (.getfield 10, 3) := by decide +kernel
theorem dX6_printed_20 : decode cX6_printed 20 = .ok (.invokevirtual 181, 3) := by decide +kernel
theorem dX6_printed_23 : decode cX6_printed 23 = .ok (.aload_n 0, 1) := by decide +kernel
theorem dX6_printed_24 : decode cX6_printed 24 = .ok (.getfield 25, 3) := by decide +kernel
theorem dX6_printed_27 : decode cX6_printed 27 = .ok (.sipush 1023, 3) := by decide +kernel
theorem dX6_printed_30 : decode cX6_printed 30 = .ok (.invokevirtual 230, 3) := by decide +kernel
theorem dX6_printed_33 : decode cX6_printed 33 = .ok (.istore_n 2, 1) := by decide +kernel
theorem dX6_printed_34 : decode cX6_printed 34 = .ok (.aload_n 0, 1) := by decide +kernel
theorem dX6_printed_35 : decode cX6_printed 35 = .ok (.getfield 53, 3) := by decide +kernel
theorem dX6_printed_38 : decode cX6_printed 38 = .ok (.aload_n 0, 1) := by decide +kernel
theorem dX6_printed_39 : decode cX6_printed 39 = .ok (.getfield 10, 3) := by decide +kernel
theorem dX6_printed_42 : decode cX6_printed 42 = .ok (.iload_n 2, 1) := by decide +kernel
theorem dX6_printed_43 : decode cX6_printed 43 = .ok (.invokestatic 259, 3) := by decide +kernel
theorem dX6_printed_46 : decode cX6_printed 46 = .ok (.iload_n 2, 1) := by decide +kernel
theorem dX6_printed_47 : decode cX6_printed 47 = .ok (.invokestatic 256, 3) := by decide +kernel
theorem dX6_printed_50 : decode cX6_printed 50 = .ok (.invokevirtual 294, 3) := by decide +kernel
theorem dX6_printed_53 : decode cX6_printed 53 = .ok (.iload_n 1, 1) := by decide +kernel
theorem dX6_printed_54 : decode cX6_printed 54 = .ok (.iconst (-1), 1) := by decide +kernel
theorem dX6_printed_55 : decode cX6_printed 55 = .ok (.if_icmp .ne 13, 3) := by decide +kernel
theorem dX6_printed_58 : decode cX6_printed 58 = .ok (.aload_n 0, 1) := by decide +kernel
theorem dX6_printed_59 : decode cX6_printed 59 = .ok (.getfield 53, 3) := by decide +kernel
theorem dX6_printed_62 : decode cX6_printed 62 = .ok (.getfield 298, 3) := by decide +kernel
theorem dX6_printed_65 : decode cX6_printed 65 = .ok (.goto 11, 3) := by decide +kernel
theorem dX6_printed_68 : decode cX6_printed 68 = .ok (.aload_n 0, 1) := by decide +kernel
theorem dX6_printed_69 : decode cX6_printed 69 = .ok (.getfield 53, 3) := by decide +kernel
theorem dX6_printed_72 : decode cX6_printed 72 = .ok (.iload_n 1, 1) := by decide +kernel
theorem dX6_printed_73 : decode cX6_printed 73 = .ok (.invokevirtual 301, 3) := by decide +kernel
theorem dX6_printed_76 : decode cX6_printed 76 = .ok (.ireturn, 1) := by decide +kernel
theorem dX6_whatIs_0 : decode cX6_whatIs 0 = .ok (.iload_n 1, 1) := by decide +kernel
theorem dX6_whatIs_1 : decode cX6_whatIs 1 = .ok (.invokestatic 93, 3) := by decide +kernel
theorem dX6_whatIs_4 : decode cX6_whatIs 4 = .ok (.ifCond .ne 9, 3) := by decide +kernel
theorem dX6_whatIs_7 : decode cX6_whatIs 7 = .ok (.aload_n 0, 1) := by decide +kernel
theorem dX6_whatIs_8 : decode cX6_whatIs 8 = .ok (.iconst (-1), 1) := by decide +kernel
theorem dX6_whatIs_9 : decode cX6_whatIs 9 = .ok (.invokevirtual 72, 3) := by decide +kernel
theorem dX6_whatIs_12 : decode cX6_whatIs 12 = .ok (.ireturn, 1) := by decide +kernel
theorem dX6_whatIs_13 : decode cX6_whatIs 13 = .ok (.iload_n 2, 1) := by decide +kernel
theorem dX6_whatIs_14 : decode cX6_whatIs 14 = .ok (.invokestatic 196, 3) := by decide +kernel
theorem dX6_whatIs_17 : decode cX6_whatIs 17 = .ok (.ifCond .ne 10, 3) := by decide +kernel
theorem dX6_whatIs_20 : decode cX6_whatIs 20 = .ok (.aload_n 0, 1) := by decide +kernel
theorem dX6_whatIs_21 : decode cX6_whatIs 21 = .ok (.bipush (-2), 2) := by decide +kernel
theorem dX6_whatIs_23 : decode cX6_whatIs 23 = .ok (.invokevirtual 72, 3) := by decide +kernel
theorem dX6_whatIs_26 : decode cX6_whatIs 26 = .ok (.ireturn, 1) := by decide +kernel
theorem dX6_whatIs_27 : decode cX6_whatIs 27 = .ok (.aload_n 0, 1) := by decide +kernel
theorem dX6_whatIs_28 : decode cX6_whatIs 28 = .ok (.getfield 19, 3) := by decide +kernel
theorem dX6_whatIs_31 : decode cX6_whatIs 31 = .ok (.aload_n 0, 1) := by decide +kernel
theorem dX6_whatIs_32 : decode cX6_whatIs 32 = .ok (.getfield 10, 3) := by decide +kernel
theorem dX6_whatIs_35 : decode cX6_whatIs 35 = .ok (.invokevirtual 276, 3) := by decide +kernel
theorem dX6_whatIs_38 : decode cX6_whatIs 38 = .ok (.iload_n 2, 1) := by decide +kernel
theorem dX6_whatIs_39 : decode cX6_whatIs 39 = .ok (.ifCond .ne 8, 3) := by decide +kernel
theorem dX6_whatIs_42 : decode cX6_whatIs 42 = .ok (.bipush 6, 2) := by decide +kernel
theorem dX6_whatIs_44 : decode cX6_whatIs 44 = .ok (.goto 5, 3) := by decide +kernel
theorem dX6_whatIs_47 : decode cX6_whatIs 47 = .ok (.bipush 10, 2) := by decide +kernel
theorem dX6_whatIs_49 : decode cX6_whatIs 49 = .ok (.istore_n 3, 1) := by decide +kernel
theorem dX6_whatIs_50 : decode cX6_whatIs 50 = .ok (.iconst 0, 1) := by decide +kernel
theorem dX6_whatIs_51 : decode cX6_whatIs 51 = .ok (.istore 4, 2) := by decide +kernel
theorem dX6_whatIs_53 : decode cX6_whatIs 53 = .ok (.iconst 0, 1) := by decide +kernel
theorem dX6_whatIs_54 : decode cX6_whatIs 54 = .ok (.istore 5, 2) := by decide +kernel
theorem dX6_whatIs_56 : decode cX6_whatIs 56 = .ok (.iload 5, 2) := by decide +kernel
theorem dX6_whatIs_58 : decode cX6_whatIs 58 = .ok (.iload_n 3, 1) := by decide +kernel
theorem dX6_whatIs_59 : decode cX6_whatIs 59 = .ok (.if_icmp .ge 86, 3) := by decide +kernel
theorem dX6_whatIs_62 : decode cX6_whatIs 62 = .ok (.iload_n 2, 1) := by decide +kernel
theorem dX6_whatIs_63 : decode cX6_whatIs 63 = .ok (.ifCond .ne 8, 3) := by decide +kernel
theorem dX6_whatIs_66 : decode cX6_whatIs 66 = .ok (.iload 5, 2) := by decide +kernel
theorem dX6_whatIs_68 : decode cX6_whatIs 68 = .ok (.goto 11, 3) := by decide +kernel
theorem dX6_whatIs_71 : decode cX6_whatIs 71 = .ok (.aload_n 0, 1) := by decide +kernel
theorem dX6_whatIs_72 : decode cX6_whatIs 72 = .ok (.getfield 10, 3) := by decide +kernel
theorem dX6_whatIs_75 : decode cX6_whatIs 75 = .ok (.iload_n 1, 1) := by decide +kernel
theorem dX6_whatIs_76 : decode cX6_whatIs 76 = .ok (.invokevirtual 126, 3) := by decide +kernel
theorem dX6_whatIs_79 : decode cX6_whatIs 79 = .ok (.istore 6, 2) := by decide +kernel
theorem dX6_whatIs_81 : decode cX6_whatIs 81 = .ok (.iload_n 2, 1) := by decide +kernel
theorem dX6_whatIs_82 : decode cX6_whatIs 82 = .ok (.ifCond .ne 14, 3) := by decide +kernel
theorem dX6_whatIs_85 : decode cX6_whatIs 85 = .ok (.aload_n 0, 1) := by decide +kernel
theorem dX6_whatIs_86 : decode cX6_whatIs 86 = .ok (.getfield 10, 3) := by decide +kernel
theorem dX6_whatIs_89 : decode cX6_whatIs 89 = .ok (.iload_n 1, 1) := by decide +kernel
theorem dX6_whatIs_90 : decode cX6_whatIs 90 = .ok (.invokevirtual 129, 3) := by decide +kernel
theorem dX6_whatIs_93 : decode cX6_whatIs 93 = .ok (.goto 5, 3) := by decide +kernel
theorem dX6_whatIs_96 : decode cX6_whatIs 96 = .ok (.iload 5, 2) := by decide +kernel
theorem dX6_whatIs_98 : decode cX6_whatIs 98 = .ok (.istore 7, 2) := by decide +kernel
theorem dX6_whatIs_100 : decode cX6_whatIs 100 = .ok (.aload_n 0, 1) := by decide +kernel
theorem dX6_whatIs_101 : decode cX6_whatIs 101 = .ok (.getfield 19, 3) := by decide +kernel
theorem dX6_whatIs_104 : decode cX6_whatIs 104 = .ok (.iload_n 1, 1) := by decide +kernel
theorem dX6_whatIs_105 : decode cX6_whatIs 105 = .ok (.iload 6, 2) := by decide +kernel
theorem dX6_whatIs_107 : decode cX6_whatIs 107 = .ok (.iload 7, 2) := by decide +kernel
theorem dX6_whatIs_109 : decode cX6_whatIs 109 = .ok (.invokevirtual 132, 3) := by decide +kernel
theorem dX6_whatIs_112 : decode cX6_whatIs 112 = .ok (.aload_n 0, 1) := by decide +kernel
theorem dX6_whatIs_113 : decode cX6_whatIs 113 = .ok (.aload_n 0, 1) := by decide +kernel
theorem dX6_whatIs_114 : decode cX6_whatIs 114 = .ok (.getfield 19, 3) := by decide +kernel
theorem dX6_whatIs_117 : decode cX6_whatIs 117 = .ok (.invokevirtual 164, 3) := by decide +kernel
theorem dX6_whatIs_120 : decode cX6_whatIs 120 = .ok (.aload_n 0, 1) := by decide +kernel
theorem dX6_whatIs_121 : decode cX6_whatIs 121 = .ok (.iconst 1, 1) := by decide +kernel
theorem dX6_whatIs_122 : decode cX6_whatIs 122 = .ok (.invokevirtual 304, 3) := by decide +kernel
theorem dX6_whatIs_125 : decode cX6_whatIs 125 = .ok (.bipush (-9), 2) := by decide +kernel
theorem dX6_whatIs_127 : decode cX6_whatIs 127 = .ok (.if_icmp .ne 12, 3) := by decide +kernel
theorem dX6_whatIs_130 : decode cX6_whatIs 130 = .ok (.iload 4, 2) := by decide +kernel
theorem dX6_whatIs_132 : decode cX6_whatIs 132 = .ok (.iconst 1, 1) := by decide +kernel
theorem dX6_whatIs_133 : decode cX6_whatIs 133 = .ok (.iload 5, 2) := by decide +kernel
theorem dX6_whatIs_135 : decode cX6_whatIs 135 = .ok (.ishl, 1) := by decide +kernel
theorem dX6_whatIs_136 : decode cX6_whatIs 136 = .ok (.ior, 1) := by decide +kernel
theorem dX6_whatIs_137 : decode cX6_whatIs 137 = .ok (.istore 4, 2) := by decide +kernel
theorem dX6_whatIs_139 : decode cX6_whatIs 139 = .ok (.iinc 5 1, 3) := by decide +kernel
theorem dX6_whatIs_142 : decode cX6_whatIs 142 = .ok (.goto (-86), 3) := by decide +kernel
theorem dX6_whatIs_145 : decode cX6_whatIs 145 = .ok (.iload 4, 2) := by decide +kernel
theorem dX6_whatIs_147 : decode cX6_whatIs 147 = .ok (.ireturn, 1) := by decide +kernel
theorem dX6_row_0 : decode cX6_row 0 = .ok (.iload_n 1, 1) := by decide +kernel
theorem dX6_row_1 : decode cX6_row 1 = .ok (.ifCond .ge 10, 3) := by decide +kernel
theorem dX6_row_4 : decode cX6_row 4 = .ok (.aload_n 0, 1) := by decide +kernel
theorem dX6_row_5 : decode cX6_row 5 = .ok (.bipush (-4), 2) := by decide +kernel
theorem dX6_row_7 : decode cX6_row 7 = .ok (.invokevirtual 72, 3) := by decide +kernel
theorem dX6_row_10 : decode cX6_row 10 = .ok (.ireturn, 1) := by decide +kernel
theorem dX6_row_11 : decode cX6_row 11 = .ok (.iload_n 1, 1) := by decide +kernel
theorem dX6_row_12 : decode cX6_row 12 = .ok (.bipush 99, 2) := by decide +kernel
theorem dX6_row_14 : decode cX6_row 14 = .ok (.if_icmp .gt 11, 3) := by decide +kernel
theorem dX6_row_17 : decode cX6_row 17 = .ok (.aload_n 0, 1) := by decide +kernel
theorem dX6_row_18 : decode cX6_row 18 = .ok (.getfield 64, 3) := by decide +kernel
theorem dX6_row_21 : decode cX6_row 21 = .ok (.iconst 5, 1) := by decide +kernel
theorem dX6_row_22 : decode cX6_row 22 = .ok (.if_icmp .lt 10, 3) := by decide +kernel
theorem dX6_row_25 : decode cX6_row 25 = .ok (.aload_n 0, 1) := by decide +kernel
theorem dX6_row_26 : decode cX6_row 26 = .ok (.bipush (-6), 2) := by decide +kernel
theorem dX6_row_28 : decode cX6_row 28 = .ok (.invokevirtual 72, 3) := by decide +kernel
theorem dX6_row_31 : decode cX6_row 31 = .ok (.ireturn, 1) := by decide +kernel
theorem dX6_row_32 : decode cX6_row 32 = .ok (.aload_n 0, 1) := by decide +kernel
theorem dX6_row_33 : decode cX6_row 33 = .ok (.getfield 57, 3) := by decide +kernel
theorem dX6_row_36 : decode cX6_row 36 = .ok (.aload_n 0, 1) := by decide +kernel
theorem dX6_row_37 : decode cX6_row 37 = .ok (.getfield 64, 3) := by decide +kernel
theorem dX6_row_40 : decode cX6_row 40 = .ok (.iload_n 1, 1) := by decide +kernel
theorem dX6_row_41 : decode cX6_row 41 = .ok (.iastore, 1) := by decide +kernel
theorem dX6_row_42 : decode cX6_row 42 = .ok (.aload_n 0, 1) := by decide +kernel
theorem dX6_row_43 : decode cX6_row 43 = .ok (.dup, 1) := by decide +kernel
theorem dX6_row_44 : decode cX6_row 44 = .ok (.getfield 64, 3) := by decide +kernel
theorem dX6_row_47 : decode cX6_row 47 = .ok (.iconst 1, 1) := by decide +kernel
theorem dX6_row_48 : decode cX6_row 48 = .ok (.iadd, 1) := by decide +kernel
theorem dX6_row_49 : decode cX6_row 49 = .ok (.putfield 64, 3) := by decide +kernel
theorem dX6_row_52 : decode cX6_row 52 = .ok (.aload_n 0, 1) := by decide +kernel
theorem dX6_row_53 : decode cX6_row 53 = .ok (.getfield 64, 3) := by decide +kernel
theorem dX6_row_56 : decode cX6_row 56 = .ok (.ireturn, 1) := by decide +kernel
theorem dX6_judge_0 : decode cX6_judge 0 = .ok (.iload_n 1, 1) := by decide +kernel
theorem dX6_judge_1 : decode cX6_judge 1 = .ok (.invokestatic 233, 3) := by decide +kernel
theorem dX6_judge_4 : decode cX6_judge 4 = .ok (.ifCond .ne 10, 3) := by decide +kernel
theorem dX6_judge_7 : decode cX6_judge 7 = .ok (.aload_n 0, 1) := by decide +kernel
theorem dX6_judge_8 : decode cX6_judge 8 = .ok (.bipush (-2), 2) := by decide +kernel
theorem dX6_judge_10 : decode cX6_judge 10 = .ok (.invokevirtual 72, 3) := by decide +kernel
theorem dX6_judge_13 : decode cX6_judge 13 = .ok (.ireturn, 1) := by decide +kernel
theorem dX6_judge_14 : decode cX6_judge 14 = .ok (.aload_n 0, 1) := by decide +kernel
theorem dX6_judge_15 : decode cX6_judge 15 = .ok (.invokevirtual 236, 3) := by decide +kernel
theorem dX6_judge_18 : decode cX6_judge 18 = .ok (.aload_n 0, 1) := by decide +kernel
theorem dX6_judge_19 : decode cX6_judge 19 = .ok (.iload_n 1, 1) := by decide +kernel
theorem dX6_judge_20 : decode cX6_judge 20 = .ok (.invokevirtual 304, 3) := by decide +kernel
theorem dX6_judge_23 : decode cX6_judge 23 = .ok (.istore_n 2, 1) := by decide +kernel
theorem dX6_judge_24 : decode cX6_judge 24 = .ok (.aload_n 0, 1) := by decide +kernel
theorem dX6_judge_25 : decode cX6_judge 25 = .ok (.iconst 0, 1) := by decide +kernel
theorem dX6_judge_26 : decode cX6_judge 26 = .ok (.putfield 64, 3) := by decide +kernel
theorem dX6_judge_29 : decode cX6_judge 29 = .ok (.iload_n 2, 1) := by decide +kernel
theorem dX6_judge_30 : decode cX6_judge 30 = .ok (.ireturn, 1) := by decide +kernel
theorem dX6_clear_0 : decode cX6_clear 0 = .ok (.aload_n 0, 1) := by decide +kernel
theorem dX6_clear_1 : decode cX6_clear 1 = .ok (.getfield 64, 3) := by decide +kernel
theorem dX6_clear_4 : decode cX6_clear 4 = .ok (.istore_n 1, 1) := by decide +kernel
theorem dX6_clear_5 : decode cX6_clear 5 = .ok (.aload_n 0, 1) := by decide +kernel
theorem dX6_clear_6 : decode cX6_clear 6 = .ok (.iconst 0, 1) := by decide +kernel
theorem dX6_clear_7 : decode cX6_clear 7 = .ok (.putfield 64, 3) := by decide +kernel
theorem dX6_clear_10 : decode cX6_clear 10 = .ok (.iload_n 1, 1) := by decide +kernel
theorem dX6_clear_11 : decode cX6_clear 11 = .ok (.ireturn, 1) := by decide +kernel
theorem dX6_lots_0 : decode cX6_lots 0 = .ok (.iload_n 1, 1) := by decide +kernel
theorem dX6_lots_1 : decode cX6_lots 1 = .ok (.iconst 1, 1) := by decide +kernel
theorem dX6_lots_2 : decode cX6_lots 2 = .ok (.if_icmp .ge 10, 3) := by decide +kernel
theorem dX6_lots_5 : decode cX6_lots 5 = .ok (.aload_n 0, 1) := by decide +kernel
theorem dX6_lots_6 : decode cX6_lots 6 = .ok (.bipush (-4), 2) := by decide +kernel
theorem dX6_lots_8 : decode cX6_lots 8 = .ok (.invokevirtual 72, 3) := by decide +kernel
theorem dX6_lots_11 : decode cX6_lots 11 = .ok (.ireturn, 1) := by decide +kernel
theorem dX6_lots_12 : decode cX6_lots 12 = .ok (.iload_n 1, 1) := by decide +kernel
theorem dX6_lots_13 : decode cX6_lots 13 = .ok (.bipush 20, 2) := by decide +kernel
theorem dX6_lots_15 : decode cX6_lots 15 = .ok (.if_icmp .le 10, 3) := by decide +kernel
theorem dX6_lots_18 : decode cX6_lots 18 = .ok (.aload_n 0, 1) := by decide +kernel
theorem dX6_lots_19 : decode cX6_lots 19 = .ok (.bipush (-6), 2) := by decide +kernel
theorem dX6_lots_21 : decode cX6_lots 21 = .ok (.invokevirtual 72, 3) := by decide +kernel
theorem dX6_lots_24 : decode cX6_lots 24 = .ok (.ireturn, 1) := by decide +kernel
theorem dX6_lots_25 : decode cX6_lots 25 = .ok (.iload_n 3, 1) := by decide +kernel
theorem dX6_lots_26 : decode cX6_lots 26 = .ok (.invokestatic 196, 3) := by decide +kernel
theorem dX6_lots_29 : decode cX6_lots 29 = .ok (.ifCond .ne 10, 3) := by decide +kernel
theorem dX6_lots_32 : decode cX6_lots 32 = .ok (.aload_n 0, 1) := by decide +kernel
theorem dX6_lots_33 : decode cX6_lots 33 = .ok (.bipush (-2), 2) := by decide +kernel
theorem dX6_lots_35 : decode cX6_lots 35 = .ok (.invokevirtual 72, 3) := by decide +kernel
theorem dX6_lots_38 : decode cX6_lots 38 = .ok (.ireturn, 1) := by decide +kernel
theorem dX6_lots_39 : decode cX6_lots 39 = .ok (.aload_n 0, 1) := by decide +kernel
theorem dX6_lots_40 : decode cX6_lots 40 = .ok (.getfield 19, 3) := by decide +kernel
theorem dX6_lots_43 : decode cX6_lots 43 = .ok (.aload_n 0, 1) := by decide +kernel
theorem dX6_lots_44 : decode cX6_lots 44 = .ok (.getfield 10, 3) := by decide +kernel
theorem dX6_lots_47 : decode cX6_lots 47 = .ok (.invokevirtual 276, 3) := by decide +kernel
theorem dX6_lots_50 : decode cX6_lots 50 = .ok (.iload_n 2, 1) := by decide +kernel
theorem dX6_lots_51 : decode cX6_lots 51 = .ok (.istore 4, 2) := by decide +kernel
theorem dX6_lots_53 : decode cX6_lots 53 = .ok (.iconst 0, 1) := by decide +kernel
theorem dX6_lots_54 : decode cX6_lots 54 = .ok (.istore 5, 2) := by decide +kernel
theorem dX6_lots_56 : decode cX6_lots 56 = .ok (.iconst 0, 1) := by decide +kernel
theorem dX6_lots_57 : decode cX6_lots 57 = .ok (.istore 6, 2) := by decide +kernel
theorem dX6_lots_59 : decode cX6_lots 59 = .ok (.iload 6, 2) := by decide +kernel
theorem dX6_lots_61 : decode cX6_lots 61 = .ok (.iload_n 1, 1) := by decide +kernel
theorem dX6_lots_62 : decode cX6_lots 62 = .ok (.if_icmp .ge 94, 3) := by decide +kernel
theorem dX6_lots_65 : decode cX6_lots 65 = .ok (.iconst 0, 1) := by decide +kernel
theorem dX6_lots_66 : decode cX6_lots 66 = .ok (.istore 7, 2) := by decide +kernel
theorem dX6_lots_68 : decode cX6_lots 68 = .ok (.iload 7, 2) := by decide +kernel
theorem dX6_lots_70 : decode cX6_lots 70 = .ok (.aload_n 0, 1) := by decide +kernel
theorem dX6_lots_71 : decode cX6_lots 71 = .ok (.getfield 19, 3) := by decide +kernel
theorem dX6_lots_74 : decode cX6_lots 74 = .ok (.getfield 102, 3) := by decide +kernel
theorem dX6_lots_77 : decode cX6_lots 77 = .ok (.if_icmp .ge 34, 3) := by decide +kernel
theorem dX6_lots_80 : decode cX6_lots 80 = .ok (.iload 4, 2) := by decide +kernel
theorem dX6_lots_82 : decode cX6_lots 82 = .ok (.invokestatic 307, 3) := by decide +kernel
theorem dX6_lots_85 : decode cX6_lots 85 = .ok (.istore 4, 2) := by decide +kernel
theorem dX6_lots_87 : decode cX6_lots 87 = .ok (.aload_n 0, 1) := by decide +kernel
theorem dX6_lots_88 : decode cX6_lots 88 = .ok (.getfield 19, 3) := by decide +kernel
theorem dX6_lots_91 : decode cX6_lots 91 = .ok (.iload 7, 2) := by decide +kernel
theorem dX6_lots_93 : decode cX6_lots 93 = .ok (.iconst 1, 1) := by decide +kernel
theorem dX6_lots_94 : decode cX6_lots 94 = .ok (.iload 4, 2) := by decide +kernel
theorem dX6_lots_96 : decode cX6_lots 96 = .ok (.bipush 99, 2) := by decide +kernel
theorem dX6_lots_98 : decode cX6_lots 98 = .ok (.invokestatic 310, 3) := by decide +kernel
theorem dX6_lots_101 : decode cX6_lots 101 = .ok (.iadd, 1) := by decide +kernel
theorem dX6_lots_102 : decode cX6_lots 102 = .ok (.invokevirtual 122, 3) := by decide +kernel
theorem dX6_lots_105 : decode cX6_lots 105 = .ok (.iinc 7 1, 3) := by decide +kernel
theorem dX6_lots_108 : decode cX6_lots 108 = .ok (.goto (-40), 3) := by decide +kernel
theorem dX6_lots_111 : decode cX6_lots 111 = .ok (.aload_n 0, 1) := by decide +kernel
theorem dX6_lots_112 : decode cX6_lots 112 = .ok (.aload_n 0, 1) := by decide +kernel
theorem dX6_lots_113 : decode cX6_lots 113 = .ok (.getfield 19, 3) := by decide +kernel
theorem dX6_lots_116 : decode cX6_lots 116 = .ok (.invokevirtual 164, 3) := by decide +kernel
theorem dX6_lots_119 : decode cX6_lots 119 = .ok (.iload 5, 2) := by decide +kernel
theorem dX6_lots_121 : decode cX6_lots 121 = .ok (.iload_n 3, 1) := by decide +kernel
theorem dX6_lots_122 : decode cX6_lots 122 = .ok (.ifCond .ne 13, 3) := by decide +kernel
theorem dX6_lots_125 : decode cX6_lots 125 = .ok (.aload_n 0, 1) := by decide +kernel
theorem dX6_lots_126 : decode cX6_lots 126 = .ok (.getfield 32, 3) := by decide +kernel
theorem dX6_lots_129 : decode cX6_lots 129 = .ok (.getfield 313, 3) := by decide +kernel
theorem dX6_lots_132 : decode cX6_lots 132 = .ok (.goto 15, 3) := by decide +kernel
theorem dX6_lots_135 : decode cX6_lots 135 = .ok (.aload_n 0, 1) := by decide +kernel
theorem dX6_lots_136 : decode cX6_lots 136 = .ok (.getfield 32, 3) := by decide +kernel
theorem dX6_lots_139 : decode cX6_lots 139 = .ok (.getfield 262, 3) := by decide +kernel
theorem dX6_lots_142 : decode cX6_lots 142 = .ok (.bipush 31, 2) := by decide +kernel
theorem dX6_lots_144 : decode cX6_lots 144 = .ok (.invokestatic 170, 3) := by decide +kernel
theorem dX6_lots_147 : decode cX6_lots 147 = .ok (.iadd, 1) := by decide +kernel
theorem dX6_lots_148 : decode cX6_lots 148 = .ok (.istore 5, 2) := by decide +kernel
theorem dX6_lots_150 : decode cX6_lots 150 = .ok (.iinc 6 1, 3) := by decide +kernel
theorem dX6_lots_153 : decode cX6_lots 153 = .ok (.goto (-94), 3) := by decide +kernel
theorem dX6_lots_156 : decode cX6_lots 156 = .ok (.iload 5, 2) := by decide +kernel
theorem dX6_lots_158 : decode cX6_lots 158 = .ok (.ireturn, 1) := by decide +kernel
theorem dX6_image_0 : decode cX6_image 0 = .ok (.aload_n 0, 1) := by decide +kernel
theorem dX6_image_1 : decode cX6_image 1 = .ok (.getfield 16, 3) := by decide +kernel
theorem dX6_image_4 : decode cX6_image 4 = .ok (.aload_n 0, 1) := by decide +kernel
theorem dX6_image_5 : decode cX6_image 5 = .ok (.getfield 10, 3) := by decide +kernel
theorem dX6_image_8 : decode cX6_image 8 = .ok (.invokevirtual 276, 3) := by decide +kernel
theorem dX6_image_11 : decode cX6_image 11 = .ok (.aload_n 0, 1) := by decide +kernel
theorem dX6_image_12 : decode cX6_image 12 = .ok (.iconst 1, 1) := by decide +kernel
theorem dX6_image_13 : decode cX6_image 13 = .ok (.putfield 68, 3) := by decide +kernel
theorem dX6_image_16 : decode cX6_image 16 = .ok (.aload_n 0, 1) := by decide +kernel
theorem dX6_image_17 : decode cX6_image 17 = .ok (.getfield 10, 3) := by decide +kernel
theorem dX6_image_20 : decode cX6_image 20 = .ok (.getfield 102, 3) := by decide +kernel
theorem dX6_image_23 : decode cX6_image 23 = .ok (.ireturn, 1) := by decide +kernel
theorem dX6_on_0 : decode cX6_on 0 = .ok (.aload_n 0, 1) := by decide +kernel
theorem dX6_on_1 : decode cX6_on 1 = .ok (.getfield 68, 3) := by decide +kernel
theorem dX6_on_4 : decode cX6_on 4 = .ok (.ifCond .ne 10, 3) := by decide +kernel
theorem dX6_on_7 : decode cX6_on 7 = .ok (.aload_n 0, 1) := by decide +kernel
theorem dX6_on_8 : decode cX6_on 8 = .ok (.bipush (-3), 2) := by decide +kernel
theorem dX6_on_10 : decode cX6_on 10 = .ok (.invokevirtual 72, 3) := by decide +kernel
theorem dX6_on_13 : decode cX6_on 13 = .ok (.ireturn, 1) := by decide +kernel
theorem dX6_on_14 : decode cX6_on 14 = .ok (.aload_n 0, 1) := by decide +kernel
theorem dX6_on_15 : decode cX6_on 15 = .ok (.getfield 10, 3) := by decide +kernel
theorem dX6_on_18 : decode cX6_on 18 = .ok (.aload_n 0, 1) := by decide +kernel
theorem dX6_on_19 : decode cX6_on 19 = .ok (.getfield 16, 3) := by decide +kernel
theorem dX6_on_22 : decode cX6_on 22 = .ok (.invokevirtual 276, 3) := by decide +kernel
theorem dX6_on_25 : decode cX6_on 25 = .ok (.aload_n 0, 1) := by decide +kernel
theorem dX6_on_26 : decode cX6_on 26 = .ok (.getfield 10, 3) := by decide +kernel
theorem dX6_on_29 : decode cX6_on 29 = .ok (.getfield 102, 3) := by decide +kernel
theorem dX6_on_32 : decode cX6_on 32 = .ok (.ireturn, 1) := by decide +kernel
theorem dX6_count_0 : decode cX6_count 0 = .ok (.iload_n 1, 1) := by decide +kernel
theorem dX6_count_1 : decode cX6_count 1 = .ok (.tableswitch 112 0 6 #[43, 51, 59, 68, 84, 99, 104], 43) := by decide +kernel
theorem dX6_count_44 : decode cX6_count 44 = .ok (.aload_n 0, 1) := by decide +kernel
theorem dX6_count_45 : decode cX6_count 45 = .ok (.getfield 10, 3) := by decide +kernel
theorem dX6_count_48 : decode cX6_count 48 = .ok (.getfield 102, 3) := by decide +kernel
theorem dX6_count_51 : decode cX6_count 51 = .ok (.ireturn, 1) := by decide +kernel
theorem dX6_count_52 : decode cX6_count 52 = .ok (.aload_n 0, 1) := by decide +kernel
theorem dX6_count_53 : decode cX6_count 53 = .ok (.getfield 10, 3) := by decide +kernel
theorem dX6_count_56 : decode cX6_count 56 = .ok (.getfield 112, 3) := by decide +kernel
theorem dX6_count_59 : decode cX6_count 59 = .ok (.ireturn, 1) := by decide +kernel
theorem dX6_count_60 : decode cX6_count 60 = .ok (.aload_n 0, 1) := by decide +kernel
theorem dX6_count_61 : decode cX6_count 61 = .ok (.getfield 10, 3) := by decide +kernel
theorem dX6_count_64 : decode cX6_count 64 = .ok (.iconst 0, 1) := by decide +kernel
theorem dX6_count_65 : decode cX6_count 65 = .ok (.invokevirtual 316, 3) := by decide +kernel
theorem dX6_count_68 : decode cX6_count 68 = .ok (.ireturn, 1) := by decide +kernel
theorem dX6_count_69 : decode cX6_count 69 = .ok (.aload_n 0, 1) := by decide +kernel
theorem dX6_count_70 : decode cX6_count 70 = .ok (.aload_n 0, 1) := by decide +kernel
theorem dX6_count_71 : decode cX6_count 71 = .ok (.getfield 10, 3) := by decide +kernel
theorem dX6_count_74 : decode cX6_count 74 = .ok (.invokevirtual 164, 3) := by decide +kernel
theorem dX6_count_77 : decode cX6_count 77 = .ok (.aload_n 0, 1) := by decide +kernel
theorem dX6_count_78 : decode cX6_count 78 = .ok (.getfield 32, 3) := by decide +kernel
theorem dX6_count_81 : decode cX6_count 81 = .ok (.invokevirtual 291, 3) := by decide +kernel
theorem dX6_count_84 : decode cX6_count 84 = .ok (.ireturn, 1) := by decide +kernel
theorem dX6_count_85 : decode cX6_count 85 = .ok (.aload_n 0, 1) := by decide +kernel
theorem dX6_count_86 : decode cX6_count 86 = .ok (.getfield 10, 3) := by decide +kernel
theorem dX6_count_89 : decode cX6_count 89 = .ok (.aload_n 0, 1) := by decide +kernel
theorem dX6_count_90 : decode cX6_count 90 = .ok (.getfield 10, 3) := by decide +kernel
theorem dX6_count_93 : decode cX6_count 93 = .ok (.getfield 112, 3) := by decide +kernel
theorem dX6_count_96 : decode cX6_count 96 = .ok (.invokevirtual 222, 3) := by decide +kernel
theorem dX6_count_99 : decode cX6_count 99 = .ok (.ireturn, 1) := by decide +kernel
theorem dX6_count_100 : decode cX6_count 100 = .ok (.aload_n 0, 1) := by decide +kernel
theorem dX6_count_101 : decode cX6_count 101 = .ok (.getfield 64, 3) := by decide +kernel
theorem dX6_count_104 : decode cX6_count 104 = .ok (.ireturn, 1) := by decide +kernel
theorem dX6_count_105 : decode cX6_count 105 = .ok (.aload_n 0, 1) := by decide +kernel
theorem dX6_count_106 : decode cX6_count 106 = .ok (.getfield 46, 3) := by decide +kernel
theorem dX6_count_109 : decode cX6_count 109 = .ok (.getfield 319, 3) := by decide +kernel
theorem dX6_count_112 : decode cX6_count 112 = .ok (.ireturn, 1) := by decide +kernel
theorem dX6_count_113 : decode cX6_count 113 = .ok (.iload_n 1, 1) := by decide +kernel
theorem dX6_count_114 : decode cX6_count 114 = .ok (.bipush 11, 2) := by decide +kernel
theorem dX6_count_116 : decode cX6_count 116 = .ok (.if_icmp .lt 21, 3) := by decide +kernel
theorem dX6_count_119 : decode cX6_count 119 = .ok (.iload_n 1, 1) := by decide +kernel
theorem dX6_count_120 : decode cX6_count 120 = .ok (.bipush 16, 2) := by decide +kernel
theorem dX6_count_122 : decode cX6_count 122 = .ok (.if_icmp .gt 15, 3) := by decide +kernel
theorem dX6_count_125 : decode cX6_count 125 = .ok (.aload_n 0, 1) := by decide +kernel
theorem dX6_count_126 : decode cX6_count 126 = .ok (.getfield 61, 3) := by decide +kernel
theorem dX6_count_129 : decode cX6_count 129 = .ok (.iload_n 1, 1) := by decide +kernel
theorem dX6_count_130 : decode cX6_count 130 = .ok (.bipush 10, 2) := by decide +kernel
theorem dX6_count_132 : decode cX6_count 132 = .ok (.isub, 1) := by decide +kernel
theorem dX6_count_133 : decode cX6_count 133 = .ok (.iaload, 1) := by decide +kernel
theorem dX6_count_134 : decode cX6_count 134 = .ok (.goto 5, 3) := by decide +kernel
theorem dX6_count_137 : decode cX6_count 137 = .ok (.bipush (-9), 2) := by decide +kernel
theorem dX6_count_139 : decode cX6_count 139 = .ok (.ireturn, 1) := by decide +kernel
theorem dX6_refuse_0 : decode cX6_refuse 0 = .ok (.iload_n 1, 1) := by decide +kernel
theorem dX6_refuse_1 : decode cX6_refuse 1 = .ok (.ineg, 1) := by decide +kernel
theorem dX6_refuse_2 : decode cX6_refuse 2 = .ok (.istore_n 2, 1) := by decide +kernel
theorem dX6_refuse_3 : decode cX6_refuse 3 = .ok (.iload_n 2, 1) := by decide +kernel
theorem dX6_refuse_4 : decode cX6_refuse 4 = .ok (.ifCond .lt 22, 3) := by decide +kernel
theorem dX6_refuse_7 : decode cX6_refuse 7 = .ok (.iload_n 2, 1) := by decide +kernel
theorem dX6_refuse_8 : decode cX6_refuse 8 = .ok (.aload_n 0, 1) := by decide +kernel
theorem dX6_refuse_9 : decode cX6_refuse 9 = .ok (.getfield 61, 3) := by decide +kernel
theorem dX6_refuse_12 : decode cX6_refuse 12 = .ok (.arraylength, 1) := by decide +kernel
theorem dX6_refuse_13 : decode cX6_refuse 13 = .ok (.if_icmp .ge 13, 3) := by decide +kernel
theorem dX6_refuse_16 : decode cX6_refuse 16 = .ok (.aload_n 0, 1) := by decide +kernel
theorem dX6_refuse_17 : decode cX6_refuse 17 = .ok (.getfield 61, 3) := by decide +kernel
theorem dX6_refuse_20 : decode cX6_refuse 20 = .ok (.iload_n 2, 1) := by decide +kernel
theorem dX6_refuse_21 : decode cX6_refuse 21 = .ok (.dup2, 1) := by decide +kernel
theorem dX6_refuse_22 : decode cX6_refuse 22 = .ok (.iaload, 1) := by decide +kernel
theorem dX6_refuse_23 : decode cX6_refuse 23 = .ok (.iconst 1, 1) := by decide +kernel
theorem dX6_refuse_24 : decode cX6_refuse 24 = .ok (.iadd, 1) := by decide +kernel
theorem dX6_refuse_25 : decode cX6_refuse 25 = .ok (.iastore, 1) := by decide +kernel
theorem dX6_refuse_26 : decode cX6_refuse 26 = .ok (.iload_n 1, 1) := by decide +kernel
theorem dX6_refuse_27 : decode cX6_refuse 27 = .ok (.ireturn, 1) := by decide +kernel
theorem dX6_refuseLong_0 : decode cX6_refuseLong 0 = .ok (.ldc2_w 320, 3) := by decide +kernel
theorem dX6_refuseLong_3 : decode cX6_refuseLong 3 = .ok (.aload_n 0, 1) := by decide +kernel
theorem dX6_refuseLong_4 : decode cX6_refuseLong 4 = .ok (.iload_n 1, 1) := by decide +kernel
theorem dX6_refuseLong_5 : decode cX6_refuseLong 5 = .ok (.invokevirtual 72, 3) := by decide +kernel
theorem dX6_refuseLong_8 : decode cX6_refuseLong 8 = .ok (.i2l, 1) := by decide +kernel
theorem dX6_refuseLong_9 : decode cX6_refuseLong 9 = .ok (.lsub, 1) := by decide +kernel
theorem dX6_refuseLong_10 : decode cX6_refuseLong 10 = .ok (.lreturn, 1) := by decide +kernel
theorem dX6_isBidder_0 : decode cX6_isBidder 0 = .ok (.iload_n 0, 1) := by decide +kernel
theorem dX6_isBidder_1 : decode cX6_isBidder 1 = .ok (.ifCond .lt 12, 3) := by decide +kernel
theorem dX6_isBidder_4 : decode cX6_isBidder 4 = .ok (.iload_n 0, 1) := by decide +kernel
theorem dX6_isBidder_5 : decode cX6_isBidder 5 = .ok (.iconst 5, 1) := by decide +kernel
theorem dX6_isBidder_6 : decode cX6_isBidder 6 = .ok (.if_icmp .ge 7, 3) := by decide +kernel
theorem dX6_isBidder_9 : decode cX6_isBidder 9 = .ok (.iconst 1, 1) := by decide +kernel
theorem dX6_isBidder_10 : decode cX6_isBidder 10 = .ok (.goto 4, 3) := by decide +kernel
theorem dX6_isBidder_13 : decode cX6_isBidder 13 = .ok (.iconst 0, 1) := by decide +kernel
theorem dX6_isBidder_14 : decode cX6_isBidder 14 = .ok (.ireturn, 1) := by decide +kernel
theorem dX6_isItem_0 : decode cX6_isItem 0 = .ok (.iload_n 0, 1) := by decide +kernel
theorem dX6_isItem_1 : decode cX6_isItem 1 = .ok (.ifCond .lt 13, 3) := by decide +kernel
theorem dX6_isItem_4 : decode cX6_isItem 4 = .ok (.iload_n 0, 1) := by decide +kernel
theorem dX6_isItem_5 : decode cX6_isItem 5 = .ok (.bipush 6, 2) := by decide +kernel
theorem dX6_isItem_7 : decode cX6_isItem 7 = .ok (.if_icmp .ge 7, 3) := by decide +kernel
theorem dX6_isItem_10 : decode cX6_isItem 10 = .ok (.iconst 1, 1) := by decide +kernel
theorem dX6_isItem_11 : decode cX6_isItem 11 = .ok (.goto 4, 3) := by decide +kernel
theorem dX6_isItem_14 : decode cX6_isItem 14 = .ok (.iconst 0, 1) := by decide +kernel
theorem dX6_isItem_15 : decode cX6_isItem 15 = .ok (.ireturn, 1) := by decide +kernel
theorem dX6_isHow_0 : decode cX6_isHow 0 = .ok (.iload_n 0, 1) := by decide +kernel
theorem dX6_isHow_1 : decode cX6_isHow 1 = .ok (.ifCond .lt 12, 3) := by decide +kernel
theorem dX6_isHow_4 : decode cX6_isHow 4 = .ok (.iload_n 0, 1) := by decide +kernel
theorem dX6_isHow_5 : decode cX6_isHow 5 = .ok (.iconst 2, 1) := by decide +kernel
theorem dX6_isHow_6 : decode cX6_isHow 6 = .ok (.if_icmp .gt 7, 3) := by decide +kernel
theorem dX6_isHow_9 : decode cX6_isHow 9 = .ok (.iconst 1, 1) := by decide +kernel
theorem dX6_isHow_10 : decode cX6_isHow 10 = .ok (.goto 4, 3) := by decide +kernel
theorem dX6_isHow_13 : decode cX6_isHow 13 = .ok (.iconst 0, 1) := by decide +kernel
theorem dX6_isHow_14 : decode cX6_isHow 14 = .ok (.ireturn, 1) := by decide +kernel
theorem dX6_isEither_0 : decode cX6_isEither 0 = .ok (.iload_n 0, 1) := by decide +kernel
theorem dX6_isEither_1 : decode cX6_isEither 1 = .ok (.ifCond .eq 8, 3) := by decide +kernel
theorem dX6_isEither_4 : decode cX6_isEither 4 = .ok (.iload_n 0, 1) := by decide +kernel
theorem dX6_isEither_5 : decode cX6_isEither 5 = .ok (.iconst 1, 1) := by decide +kernel
theorem dX6_isEither_6 : decode cX6_isEither 6 = .ok (.if_icmp .ne 7, 3) := by decide +kernel
theorem dX6_isEither_9 : decode cX6_isEither 9 = .ok (.iconst 1, 1) := by decide +kernel
theorem dX6_isEither_10 : decode cX6_isEither 10 = .ok (.goto 4, 3) := by decide +kernel
theorem dX6_isEither_13 : decode cX6_isEither 13 = .ok (.iconst 0, 1) := by decide +kernel
theorem dX6_isEither_14 : decode cX6_isEither 14 = .ok (.ireturn, 1) := by decide +kernel
theorem dX6_areBids_0 : decode cX6_areBids 0 = .ok (.iload_n 1, 1) := by decide +kernel
theorem dX6_areBids_1 : decode cX6_areBids 1 = .ok (.iconst 1, 1) := by decide +kernel
theorem dX6_areBids_2 : decode cX6_areBids 2 = .ok (.aload_n 0, 1) := by decide +kernel
theorem dX6_areBids_3 : decode cX6_areBids 3 = .ok (.getfield 10, 3) := by decide +kernel
theorem dX6_areBids_6 : decode cX6_areBids 6 = .ok (.getfield 102, 3) := by decide +kernel
theorem dX6_areBids_9 : decode cX6_areBids 9 = .ok (.ishl, 1) := by decide +kernel
theorem dX6_areBids_10 : decode cX6_areBids 10 = .ok (.if_icmp .ge 7, 3) := by decide +kernel
theorem dX6_areBids_13 : decode cX6_areBids 13 = .ok (.iconst 1, 1) := by decide +kernel
theorem dX6_areBids_14 : decode cX6_areBids 14 = .ok (.goto 4, 3) := by decide +kernel
theorem dX6_areBids_17 : decode cX6_areBids 17 = .ok (.iconst 0, 1) := by decide +kernel
theorem dX6_areBids_18 : decode cX6_areBids 18 = .ok (.ireturn, 1) := by decide +kernel
theorem dX6_bitAt_0 : decode cX6_bitAt 0 = .ok (.iload_n 0, 1) := by decide +kernel
theorem dX6_bitAt_1 : decode cX6_bitAt 1 = .ok (.iload_n 1, 1) := by decide +kernel
theorem dX6_bitAt_2 : decode cX6_bitAt 2 = .ok (.ishr, 1) := by decide +kernel
theorem dX6_bitAt_3 : decode cX6_bitAt 3 = .ok (.iconst 1, 1) := by decide +kernel
theorem dX6_bitAt_4 : decode cX6_bitAt 4 = .ok (.iand, 1) := by decide +kernel
theorem dX6_bitAt_5 : decode cX6_bitAt 5 = .ok (.ireturn, 1) := by decide +kernel
theorem dX6_firstBid_0 : decode cX6_firstBid 0 = .ok (.iconst 0, 1) := by decide +kernel
theorem dX6_firstBid_1 : decode cX6_firstBid 1 = .ok (.istore_n 1, 1) := by decide +kernel
theorem dX6_firstBid_2 : decode cX6_firstBid 2 = .ok (.iload_n 1, 1) := by decide +kernel
theorem dX6_firstBid_3 : decode cX6_firstBid 3 = .ok (.bipush 10, 2) := by decide +kernel
theorem dX6_firstBid_5 : decode cX6_firstBid 5 = .ok (.if_icmp .ge 20, 3) := by decide +kernel
theorem dX6_firstBid_8 : decode cX6_firstBid 8 = .ok (.iload_n 0, 1) := by decide +kernel
theorem dX6_firstBid_9 : decode cX6_firstBid 9 = .ok (.iload_n 1, 1) := by decide +kernel
theorem dX6_firstBid_10 : decode cX6_firstBid 10 = .ok (.invokestatic 115, 3) := by decide +kernel
theorem dX6_firstBid_13 : decode cX6_firstBid 13 = .ok (.iconst 1, 1) := by decide +kernel
theorem dX6_firstBid_14 : decode cX6_firstBid 14 = .ok (.if_icmp .ne 5, 3) := by decide +kernel
theorem dX6_firstBid_17 : decode cX6_firstBid 17 = .ok (.iload_n 1, 1) := by decide +kernel
theorem dX6_firstBid_18 : decode cX6_firstBid 18 = .ok (.ireturn, 1) := by decide +kernel
theorem dX6_firstBid_19 : decode cX6_firstBid 19 = .ok (.iinc 1 1, 3) := by decide +kernel
theorem dX6_firstBid_22 : decode cX6_firstBid 22 = .ok (.goto (-20), 3) := by decide +kernel
theorem dX6_firstBid_25 : decode cX6_firstBid 25 = .ok (.bipush (-9), 2) := by decide +kernel
theorem dX6_firstBid_27 : decode cX6_firstBid 27 = .ok (.ireturn, 1) := by decide +kernel
theorem dX6_bidsOrWorth_0 : decode cX6_bidsOrWorth 0 = .ok (.iload_n 1, 1) := by decide +kernel
theorem dX6_bidsOrWorth_1 : decode cX6_bidsOrWorth 1 = .ok (.ifCond .ne 10, 3) := by decide +kernel
theorem dX6_bidsOrWorth_4 : decode cX6_bidsOrWorth 4 = .ok (.iload_n 0, 1) := by decide +kernel
theorem dX6_bidsOrWorth_5 : decode cX6_bidsOrWorth 5 = .ok (.invokestatic 259, 3) := by decide +kernel
theorem dX6_bidsOrWorth_8 : decode cX6_bidsOrWorth 8 = .ok (.goto 7, 3) := by decide +kernel
theorem dX6_bidsOrWorth_11 : decode cX6_bidsOrWorth 11 = .ok (.iload_n 0, 1) := by decide +kernel
theorem dX6_bidsOrWorth_12 : decode cX6_bidsOrWorth 12 = .ok (.invokestatic 256, 3) := by decide +kernel
theorem dX6_bidsOrWorth_15 : decode cX6_bidsOrWorth 15 = .ok (.ireturn, 1) := by decide +kernel
theorem dX6_winnersOf_0 : decode cX6_winnersOf 0 = .ok (.aload_n 0, 1) := by decide +kernel
theorem dX6_winnersOf_1 : decode cX6_winnersOf 1 = .ok (.getfield 25, 3) := by decide +kernel
theorem dX6_winnersOf_4 : decode cX6_winnersOf 4 = .ok (.aload_n 1, 1) := by decide +kernel
theorem dX6_winnersOf_5 : decode cX6_winnersOf 5 = .ok (.invokevirtual 181, 3) := by decide +kernel
theorem dX6_winnersOf_8 : decode cX6_winnersOf 8 = .ok (.aload_n 0, 1) := by decide +kernel
theorem dX6_winnersOf_9 : decode cX6_winnersOf 9 = .ok (.getfield 25, 3) := by decide +kernel
theorem dX6_winnersOf_12 : decode cX6_winnersOf 12 = .ok (.sipush 1023, 3) := by decide +kernel
theorem dX6_winnersOf_15 : decode cX6_winnersOf 15 = .ok (.invokevirtual 230, 3) := by decide +kernel
theorem dX6_winnersOf_18 : decode cX6_winnersOf 18 = .ok (.invokestatic 259, 3) := by decide +kernel
theorem dX6_winnersOf_21 : decode cX6_winnersOf 21 = .ok (.ireturn, 1) := by decide +kernel
theorem dX6_worthOf_0 : decode cX6_worthOf 0 = .ok (.aload_n 0, 1) := by decide +kernel
theorem dX6_worthOf_1 : decode cX6_worthOf 1 = .ok (.getfield 25, 3) := by decide +kernel
theorem dX6_worthOf_4 : decode cX6_worthOf 4 = .ok (.aload_n 1, 1) := by decide +kernel
theorem dX6_worthOf_5 : decode cX6_worthOf 5 = .ok (.invokevirtual 181, 3) := by decide +kernel
theorem dX6_worthOf_8 : decode cX6_worthOf 8 = .ok (.aload_n 0, 1) := by decide +kernel
theorem dX6_worthOf_9 : decode cX6_worthOf 9 = .ok (.getfield 25, 3) := by decide +kernel
theorem dX6_worthOf_12 : decode cX6_worthOf 12 = .ok (.sipush 1023, 3) := by decide +kernel
theorem dX6_worthOf_15 : decode cX6_worthOf 15 = .ok (.invokevirtual 230, 3) := by decide +kernel
theorem dX6_worthOf_18 : decode cX6_worthOf 18 = .ok (.invokestatic 256, 3) := by decide +kernel
theorem dX6_worthOf_21 : decode cX6_worthOf 21 = .ok (.ireturn, 1) := by decide +kernel
theorem dX6_charge_0 : decode cX6_charge 0 = .ok (.aload_n 0, 1) := by decide +kernel
theorem dX6_charge_1 : decode cX6_charge 1 = .ok (.getfield 25, 3) := by decide +kernel
theorem dX6_charge_4 : decode cX6_charge 4 = .ok (.aload_n 1, 1) := by decide +kernel
theorem dX6_charge_5 : decode cX6_charge 5 = .ok (.invokevirtual 181, 3) := by decide +kernel
theorem dX6_charge_8 : decode cX6_charge 8 = .ok (.aload_n 0, 1) := by decide +kernel
theorem dX6_charge_9 : decode cX6_charge 9 = .ok (.getfield 32, 3) := by decide +kernel
theorem dX6_charge_12 : decode cX6_charge 12 = .ok (.aload_n 1, 1) := by decide +kernel
theorem dX6_charge_13 : decode cX6_charge 13 = .ok (.aload_n 0, 1) := by decide +kernel
theorem dX6_charge_14 : decode cX6_charge 14 = .ok (.getfield 25, 3) := by decide +kernel
theorem dX6_charge_17 : decode cX6_charge 17 = .ok (.invokevirtual 322, 3) := by decide +kernel
theorem dX6_charge_20 : decode cX6_charge 20 = .ok (.return_, 1) := by decide +kernel
theorem dX6_chargeAndLift_0 : decode cX6_chargeAndLift 0 = .ok (.aload_n 0, 1) := by decide +kernel
theorem dX6_chargeAndLift_1 : decode cX6_chargeAndLift 1 = .ok (.aload_n 0, 1) := by decide +kernel
theorem dX6_chargeAndLift_2 : decode cX6_chargeAndLift 2 = .ok (.getfield 10, 3) := by decide +kernel
theorem dX6_chargeAndLift_5 : decode cX6_chargeAndLift 5 = .ok (.invokevirtual 164, 3) := by decide +kernel
theorem dX6_chargeAndLift_8 : decode cX6_chargeAndLift 8 = .ok (.aload_n 0, 1) := by decide +kernel
theorem dX6_chargeAndLift_9 : decode cX6_chargeAndLift 9 = .ok (.getfield 32, 3) := by decide +kernel
theorem dX6_chargeAndLift_12 : decode cX6_chargeAndLift 12 = .ok (.aload_n 0, 1) := by decide +kernel
theorem dX6_chargeAndLift_13 : decode cX6_chargeAndLift 13 = .ok (.getfield 10, 3) := by decide +kernel
theorem dX6_chargeAndLift_16 : decode cX6_chargeAndLift 16 = .ok (.aload_n 0, 1) := by decide +kernel
theorem dX6_chargeAndLift_17 : decode cX6_chargeAndLift 17 = .ok (.getfield 25, 3) := by decide +kernel
theorem dX6_chargeAndLift_20 : decode cX6_chargeAndLift 20 = .ok (.invokevirtual 325, 3) := by decide +kernel
theorem dX6_chargeAndLift_23 : decode cX6_chargeAndLift 23 = .ok (.return_, 1) := by decide +kernel
theorem dX6_obeyScript_0 : decode cX6_obeyScript 0 = .ok (.aload_n 0, 1) := by decide +kernel
theorem dX6_obeyScript_1 : decode cX6_obeyScript 1 = .ok (.getfield 19, 3) := by decide +kernel
theorem dX6_obeyScript_4 : decode cX6_obeyScript 4 = .ok (.aload_n 0, 1) := by decide +kernel
theorem dX6_obeyScript_5 : decode cX6_obeyScript 5 = .ok (.getfield 10, 3) := by decide +kernel
theorem dX6_obeyScript_8 : decode cX6_obeyScript 8 = .ok (.invokevirtual 276, 3) := by decide +kernel
theorem dX6_obeyScript_11 : decode cX6_obeyScript 11 = .ok (.aload_n 0, 1) := by decide +kernel
theorem dX6_obeyScript_12 : decode cX6_obeyScript 12 = .ok (.getfield 46, 3) := by decide +kernel
theorem dX6_obeyScript_15 : decode cX6_obeyScript 15 = .ok (.aload_n 0, 1) := by decide +kernel
theorem dX6_obeyScript_16 : decode cX6_obeyScript 16 = .ok (.getfield 19, 3) := by decide +kernel
theorem dX6_obeyScript_19 : decode cX6_obeyScript 19 = .ok (.invokevirtual 328, 3) := by decide +kernel
theorem dX6_obeyScript_22 : decode cX6_obeyScript 22 = .ok (.istore_n 1, 1) := by decide +kernel
theorem dX6_obeyScript_23 : decode cX6_obeyScript 23 = .ok (.iload_n 1, 1) := by decide +kernel
theorem dX6_obeyScript_24 : decode cX6_obeyScript 24 = .ok (.bipush (-9), 2) := by decide +kernel
theorem dX6_obeyScript_26 : decode cX6_obeyScript 26 = .ok (.if_icmp .eq 9, 3) := by decide +kernel
theorem dX6_obeyScript_29 : decode cX6_obeyScript 29 = .ok (.sipush (-2000), 3) := by decide +kernel
theorem dX6_obeyScript_32 : decode cX6_obeyScript 32 = .ok (.iload_n 1, 1) := by decide +kernel
theorem dX6_obeyScript_33 : decode cX6_obeyScript 33 = .ok (.isub, 1) := by decide +kernel
theorem dX6_obeyScript_34 : decode cX6_obeyScript 34 = .ok (.ireturn, 1) := by decide +kernel
theorem dX6_obeyScript_35 : decode cX6_obeyScript 35 = .ok (.aload_n 0, 1) := by decide +kernel
theorem dX6_obeyScript_36 : decode cX6_obeyScript 36 = .ok (.getfield 10, 3) := by decide +kernel
theorem dX6_obeyScript_39 : decode cX6_obeyScript 39 = .ok (.aload_n 0, 1) := by decide +kernel
theorem dX6_obeyScript_40 : decode cX6_obeyScript 40 = .ok (.getfield 19, 3) := by decide +kernel
theorem dX6_obeyScript_43 : decode cX6_obeyScript 43 = .ok (.invokevirtual 276, 3) := by decide +kernel
theorem dX6_obeyScript_46 : decode cX6_obeyScript 46 = .ok (.aload_n 0, 1) := by decide +kernel
theorem dX6_obeyScript_47 : decode cX6_obeyScript 47 = .ok (.getfield 46, 3) := by decide +kernel
theorem dX6_obeyScript_50 : decode cX6_obeyScript 50 = .ok (.getfield 331, 3) := by decide +kernel
theorem dX6_obeyScript_53 : decode cX6_obeyScript 53 = .ok (.ireturn, 1) := by decide +kernel
theorem dX6_scarcity_0 : decode cX6_scarcity 0 = .ok (.aload_n 0, 1) := by decide +kernel
theorem dX6_scarcity_1 : decode cX6_scarcity 1 = .ok (.getfield 19, 3) := by decide +kernel
theorem dX6_scarcity_4 : decode cX6_scarcity 4 = .ok (.aload_n 0, 1) := by decide +kernel
theorem dX6_scarcity_5 : decode cX6_scarcity 5 = .ok (.getfield 10, 3) := by decide +kernel
theorem dX6_scarcity_8 : decode cX6_scarcity 8 = .ok (.invokevirtual 276, 3) := by decide +kernel
theorem dX6_scarcity_11 : decode cX6_scarcity 11 = .ok (.aload_n 0, 1) := by decide +kernel
theorem dX6_scarcity_12 : decode cX6_scarcity 12 = .ok (.getfield 19, 3) := by decide +kernel
theorem dX6_scarcity_15 : decode cX6_scarcity 15 = .ok (.dup, 1) := by decide +kernel
theorem dX6_scarcity_16 : decode cX6_scarcity 16 = .ok (.getfield 112, 3) := by decide +kernel
theorem dX6_scarcity_19 : decode cX6_scarcity 19 = .ok (.aload_n 0, 1) := by decide +kernel
theorem dX6_scarcity_20 : decode cX6_scarcity 20 = .ok (.getfield 19, 3) := by decide +kernel
theorem dX6_scarcity_23 : decode cX6_scarcity 23 = .ok (.iconst 1, 1) := by decide +kernel
theorem dX6_scarcity_24 : decode cX6_scarcity 24 = .ok (.iload_n 1, 1) := by decide +kernel
theorem dX6_scarcity_25 : decode cX6_scarcity 25 = .ok (.ishl, 1) := by decide +kernel
theorem dX6_scarcity_26 : decode cX6_scarcity 26 = .ok (.invokevirtual 208, 3) := by decide +kernel
theorem dX6_scarcity_29 : decode cX6_scarcity 29 = .ok (.iconst (-1), 1) := by decide +kernel
theorem dX6_scarcity_30 : decode cX6_scarcity 30 = .ok (.ixor, 1) := by decide +kernel
theorem dX6_scarcity_31 : decode cX6_scarcity 31 = .ok (.iand, 1) := by decide +kernel
theorem dX6_scarcity_32 : decode cX6_scarcity 32 = .ok (.putfield 112, 3) := by decide +kernel
theorem dX6_scarcity_35 : decode cX6_scarcity 35 = .ok (.aload_n 0, 1) := by decide +kernel
theorem dX6_scarcity_36 : decode cX6_scarcity 36 = .ok (.getfield 19, 3) := by decide +kernel
theorem dX6_scarcity_39 : decode cX6_scarcity 39 = .ok (.iload_n 1, 1) := by decide +kernel
theorem dX6_scarcity_40 : decode cX6_scarcity 40 = .ok (.iconst 0, 1) := by decide +kernel
theorem dX6_scarcity_41 : decode cX6_scarcity 41 = .ok (.invokevirtual 141, 3) := by decide +kernel
theorem dX6_scarcity_44 : decode cX6_scarcity 44 = .ok (.aload_n 0, 1) := by decide +kernel
theorem dX6_scarcity_45 : decode cX6_scarcity 45 = .ok (.aload_n 0, 1) := by decide +kernel
theorem dX6_scarcity_46 : decode cX6_scarcity 46 = .ok (.getfield 10, 3) := by decide +kernel
theorem dX6_scarcity_49 : decode cX6_scarcity 49 = .ok (.invokevirtual 187, 3) := by decide +kernel
theorem dX6_scarcity_52 : decode cX6_scarcity 52 = .ok (.aload_n 0, 1) := by decide +kernel
theorem dX6_scarcity_53 : decode cX6_scarcity 53 = .ok (.aload_n 0, 1) := by decide +kernel
theorem dX6_scarcity_54 : decode cX6_scarcity 54 = .ok (.getfield 19, 3) := by decide +kernel
theorem dX6_scarcity_57 : decode cX6_scarcity 57 = .ok (.invokevirtual 187, 3) := by decide +kernel
theorem dX6_scarcity_60 : decode cX6_scarcity 60 = .ok (.isub, 1) := by decide +kernel
theorem dX6_scarcity_61 : decode cX6_scarcity 61 = .ok (.ireturn, 1) := by decide +kernel
theorem dX6_shillSurplus_0 : decode cX6_shillSurplus 0 = .ok (.aload_n 0, 1) := by decide +kernel
theorem dX6_shillSurplus_1 : decode cX6_shillSurplus 1 = .ok (.getfield 19, 3) := by decide +kernel
theorem dX6_shillSurplus_4 : decode cX6_shillSurplus 4 = .ok (.aload_n 0, 1) := by decide +kernel
theorem dX6_shillSurplus_5 : decode cX6_shillSurplus 5 = .ok (.getfield 10, 3) := by decide +kernel
theorem dX6_shillSurplus_8 : decode cX6_shillSurplus 8 = .ok (.invokevirtual 276, 3) := by decide +kernel
theorem dX6_shillSurplus_11 : decode cX6_shillSurplus 11 = .ok (.aload_n 0, 1) := by decide +kernel
theorem dX6_shillSurplus_12 : decode cX6_shillSurplus 12 = .ok (.getfield 19, 3) := by decide +kernel
theorem dX6_shillSurplus_15 : decode cX6_shillSurplus 15 = .ok (.iload_n 1, 1) := by decide +kernel
theorem dX6_shillSurplus_16 : decode cX6_shillSurplus 16 = .ok (.iconst 0, 1) := by decide +kernel
theorem dX6_shillSurplus_17 : decode cX6_shillSurplus 17 = .ok (.iconst 0, 1) := by decide +kernel
theorem dX6_shillSurplus_18 : decode cX6_shillSurplus 18 = .ok (.invokevirtual 132, 3) := by decide +kernel
theorem dX6_shillSurplus_21 : decode cX6_shillSurplus 21 = .ok (.aload_n 0, 1) := by decide +kernel
theorem dX6_shillSurplus_22 : decode cX6_shillSurplus 22 = .ok (.getfield 25, 3) := by decide +kernel
theorem dX6_shillSurplus_25 : decode cX6_shillSurplus 25 = .ok (.aload_n 0, 1) := by decide +kernel
theorem dX6_shillSurplus_26 : decode cX6_shillSurplus 26 = .ok (.getfield 19, 3) := by decide +kernel
theorem dX6_shillSurplus_29 : decode cX6_shillSurplus 29 = .ok (.invokevirtual 181, 3) := by decide +kernel
theorem dX6_shillSurplus_32 : decode cX6_shillSurplus 32 = .ok (.aload_n 0, 1) := by decide +kernel
theorem dX6_shillSurplus_33 : decode cX6_shillSurplus 33 = .ok (.getfield 25, 3) := by decide +kernel
theorem dX6_shillSurplus_36 : decode cX6_shillSurplus 36 = .ok (.sipush 1023, 3) := by decide +kernel
theorem dX6_shillSurplus_39 : decode cX6_shillSurplus 39 = .ok (.invokevirtual 230, 3) := by decide +kernel
theorem dX6_shillSurplus_42 : decode cX6_shillSurplus 42 = .ok (.istore_n 2, 1) := by decide +kernel
theorem dX6_shillSurplus_43 : decode cX6_shillSurplus 43 = .ok (.iload_n 2, 1) := by decide +kernel
theorem dX6_shillSurplus_44 : decode cX6_shillSurplus 44 = .ok (.invokestatic 256, 3) := by decide +kernel
theorem dX6_shillSurplus_47 : decode cX6_shillSurplus 47 = .ok (.istore_n 3, 1) := by decide +kernel
theorem dX6_shillSurplus_48 : decode cX6_shillSurplus 48 = .ok (.iload_n 2, 1) := by decide +kernel
theorem dX6_shillSurplus_49 : decode cX6_shillSurplus 49 = .ok (.invokestatic 259, 3) := by decide +kernel
theorem dX6_shillSurplus_52 : decode cX6_shillSurplus 52 = .ok (.aload_n 0, 1) := by decide +kernel
theorem dX6_shillSurplus_53 : decode cX6_shillSurplus 53 = .ok (.getfield 19, 3) := by decide +kernel
theorem dX6_shillSurplus_56 : decode cX6_shillSurplus 56 = .ok (.iconst 1, 1) := by decide +kernel
theorem dX6_shillSurplus_57 : decode cX6_shillSurplus 57 = .ok (.iload_n 1, 1) := by decide +kernel
theorem dX6_shillSurplus_58 : decode cX6_shillSurplus 58 = .ok (.ishl, 1) := by decide +kernel
theorem dX6_shillSurplus_59 : decode cX6_shillSurplus 59 = .ok (.invokevirtual 161, 3) := by decide +kernel
theorem dX6_shillSurplus_62 : decode cX6_shillSurplus 62 = .ok (.iand, 1) := by decide +kernel
theorem dX6_shillSurplus_63 : decode cX6_shillSurplus 63 = .ok (.istore 4, 2) := by decide +kernel
theorem dX6_shillSurplus_65 : decode cX6_shillSurplus 65 = .ok (.iconst 0, 1) := by decide +kernel
theorem dX6_shillSurplus_66 : decode cX6_shillSurplus 66 = .ok (.istore 5, 2) := by decide +kernel
theorem dX6_shillSurplus_68 : decode cX6_shillSurplus 68 = .ok (.iconst 0, 1) := by decide +kernel
theorem dX6_shillSurplus_69 : decode cX6_shillSurplus 69 = .ok (.istore 6, 2) := by decide +kernel
theorem dX6_shillSurplus_71 : decode cX6_shillSurplus 71 = .ok (.iload 6, 2) := by decide +kernel
theorem dX6_shillSurplus_73 : decode cX6_shillSurplus 73 = .ok (.aload_n 0, 1) := by decide +kernel
theorem dX6_shillSurplus_74 : decode cX6_shillSurplus 74 = .ok (.getfield 19, 3) := by decide +kernel
theorem dX6_shillSurplus_77 : decode cX6_shillSurplus 77 = .ok (.getfield 102, 3) := by decide +kernel
theorem dX6_shillSurplus_80 : decode cX6_shillSurplus 80 = .ok (.if_icmp .ge 68, 3) := by decide +kernel
theorem dX6_shillSurplus_83 : decode cX6_shillSurplus 83 = .ok (.iload 4, 2) := by decide +kernel
theorem dX6_shillSurplus_85 : decode cX6_shillSurplus 85 = .ok (.iload 6, 2) := by decide +kernel
theorem dX6_shillSurplus_87 : decode cX6_shillSurplus 87 = .ok (.invokestatic 115, 3) := by decide +kernel
theorem dX6_shillSurplus_90 : decode cX6_shillSurplus 90 = .ok (.iconst 1, 1) := by decide +kernel
theorem dX6_shillSurplus_91 : decode cX6_shillSurplus 91 = .ok (.if_icmp .ne 51, 3) := by decide +kernel
theorem dX6_shillSurplus_94 : decode cX6_shillSurplus 94 = .ok (.aload_n 0, 1) := by decide +kernel
theorem dX6_shillSurplus_95 : decode cX6_shillSurplus 95 = .ok (.getfield 19, 3) := by decide +kernel
theorem dX6_shillSurplus_98 : decode cX6_shillSurplus 98 = .ok (.iload 6, 2) := by decide +kernel
theorem dX6_shillSurplus_100 : decode cX6_shillSurplus 100 = .ok (.invokevirtual 119, 3) := by decide +kernel
theorem dX6_shillSurplus_103 : decode cX6_shillSurplus 103 = .ok (.istore 7, 2) := by decide +kernel
theorem dX6_shillSurplus_105 : decode cX6_shillSurplus 105 = .ok (.aload_n 0, 1) := by decide +kernel
theorem dX6_shillSurplus_106 : decode cX6_shillSurplus 106 = .ok (.getfield 25, 3) := by decide +kernel
theorem dX6_shillSurplus_109 : decode cX6_shillSurplus 109 = .ok (.sipush 1023, 3) := by decide +kernel
theorem dX6_shillSurplus_112 : decode cX6_shillSurplus 112 = .ok (.iconst 1, 1) := by decide +kernel
theorem dX6_shillSurplus_113 : decode cX6_shillSurplus 113 = .ok (.iload 6, 2) := by decide +kernel
theorem dX6_shillSurplus_115 : decode cX6_shillSurplus 115 = .ok (.ishl, 1) := by decide +kernel
theorem dX6_shillSurplus_116 : decode cX6_shillSurplus 116 = .ok (.iconst (-1), 1) := by decide +kernel
theorem dX6_shillSurplus_117 : decode cX6_shillSurplus 117 = .ok (.ixor, 1) := by decide +kernel
theorem dX6_shillSurplus_118 : decode cX6_shillSurplus 118 = .ok (.iand, 1) := by decide +kernel
theorem dX6_shillSurplus_119 : decode cX6_shillSurplus 119 = .ok (.invokevirtual 230, 3) := by decide +kernel
theorem dX6_shillSurplus_122 : decode cX6_shillSurplus 122 = .ok (.invokestatic 256, 3) := by decide +kernel
theorem dX6_shillSurplus_125 : decode cX6_shillSurplus 125 = .ok (.iload_n 3, 1) := by decide +kernel
theorem dX6_shillSurplus_126 : decode cX6_shillSurplus 126 = .ok (.iload 7, 2) := by decide +kernel
theorem dX6_shillSurplus_128 : decode cX6_shillSurplus 128 = .ok (.isub, 1) := by decide +kernel
theorem dX6_shillSurplus_129 : decode cX6_shillSurplus 129 = .ok (.isub, 1) := by decide +kernel
theorem dX6_shillSurplus_130 : decode cX6_shillSurplus 130 = .ok (.istore 8, 2) := by decide +kernel
theorem dX6_shillSurplus_132 : decode cX6_shillSurplus 132 = .ok (.iload 5, 2) := by decide +kernel
theorem dX6_shillSurplus_134 : decode cX6_shillSurplus 134 = .ok (.iload 7, 2) := by decide +kernel
theorem dX6_shillSurplus_136 : decode cX6_shillSurplus 136 = .ok (.iload 8, 2) := by decide +kernel
theorem dX6_shillSurplus_138 : decode cX6_shillSurplus 138 = .ok (.isub, 1) := by decide +kernel
theorem dX6_shillSurplus_139 : decode cX6_shillSurplus 139 = .ok (.iadd, 1) := by decide +kernel
theorem dX6_shillSurplus_140 : decode cX6_shillSurplus 140 = .ok (.istore 5, 2) := by decide +kernel
theorem dX6_shillSurplus_142 : decode cX6_shillSurplus 142 = .ok (.iinc 6 1, 3) := by decide +kernel
theorem dX6_shillSurplus_145 : decode cX6_shillSurplus 145 = .ok (.goto (-74), 3) := by decide +kernel
theorem dX6_shillSurplus_148 : decode cX6_shillSurplus 148 = .ok (.iload 5, 2) := by decide +kernel
theorem dX6_shillSurplus_150 : decode cX6_shillSurplus 150 = .ok (.ireturn, 1) := by decide +kernel
theorem dX6_firstWrongTold_0 : decode cX6_firstWrongTold 0 = .ok (.iconst 0, 1) := by decide +kernel
theorem dX6_firstWrongTold_1 : decode cX6_firstWrongTold 1 = .ok (.istore_n 2, 1) := by decide +kernel
theorem dX6_firstWrongTold_2 : decode cX6_firstWrongTold 2 = .ok (.iload_n 2, 1) := by decide +kernel
theorem dX6_firstWrongTold_3 : decode cX6_firstWrongTold 3 = .ok (.aload_n 0, 1) := by decide +kernel
theorem dX6_firstWrongTold_4 : decode cX6_firstWrongTold 4 = .ok (.getfield 64, 3) := by decide +kernel
theorem dX6_firstWrongTold_7 : decode cX6_firstWrongTold 7 = .ok (.if_icmp .ge 38, 3) := by decide +kernel
theorem dX6_firstWrongTold_10 : decode cX6_firstWrongTold 10 = .ok (.iload_n 2, 1) := by decide +kernel
theorem dX6_firstWrongTold_11 : decode cX6_firstWrongTold 11 = .ok (.aload_n 0, 1) := by decide +kernel
theorem dX6_firstWrongTold_12 : decode cX6_firstWrongTold 12 = .ok (.getfield 57, 3) := by decide +kernel
theorem dX6_firstWrongTold_15 : decode cX6_firstWrongTold 15 = .ok (.arraylength, 1) := by decide +kernel
theorem dX6_firstWrongTold_16 : decode cX6_firstWrongTold 16 = .ok (.if_icmp .ge 29, 3) := by decide +kernel
theorem dX6_firstWrongTold_19 : decode cX6_firstWrongTold 19 = .ok (.aload_n 0, 1) := by decide +kernel
theorem dX6_firstWrongTold_20 : decode cX6_firstWrongTold 20 = .ok (.getfield 57, 3) := by decide +kernel
theorem dX6_firstWrongTold_23 : decode cX6_firstWrongTold 23 = .ok (.iload_n 2, 1) := by decide +kernel
theorem dX6_firstWrongTold_24 : decode cX6_firstWrongTold 24 = .ok (.iaload, 1) := by decide +kernel
theorem dX6_firstWrongTold_25 : decode cX6_firstWrongTold 25 = .ok (.aload_n 0, 1) := by decide +kernel
theorem dX6_firstWrongTold_26 : decode cX6_firstWrongTold 26 = .ok (.getfield 32, 3) := by decide +kernel
theorem dX6_firstWrongTold_29 : decode cX6_firstWrongTold 29 = .ok (.iload_n 1, 1) := by decide +kernel
theorem dX6_firstWrongTold_30 : decode cX6_firstWrongTold 30 = .ok (.iload_n 2, 1) := by decide +kernel
theorem dX6_firstWrongTold_31 : decode cX6_firstWrongTold 31 = .ok (.invokevirtual 239, 3) := by decide +kernel
theorem dX6_firstWrongTold_34 : decode cX6_firstWrongTold 34 = .ok (.if_icmp .eq 5, 3) := by decide +kernel
theorem dX6_firstWrongTold_37 : decode cX6_firstWrongTold 37 = .ok (.iload_n 2, 1) := by decide +kernel
theorem dX6_firstWrongTold_38 : decode cX6_firstWrongTold 38 = .ok (.ireturn, 1) := by decide +kernel
theorem dX6_firstWrongTold_39 : decode cX6_firstWrongTold 39 = .ok (.iinc 2 1, 3) := by decide +kernel
theorem dX6_firstWrongTold_42 : decode cX6_firstWrongTold 42 = .ok (.goto (-40), 3) := by decide +kernel
theorem dX6_firstWrongTold_45 : decode cX6_firstWrongTold 45 = .ok (.bipush (-9), 2) := by decide +kernel
theorem dX6_firstWrongTold_47 : decode cX6_firstWrongTold 47 = .ok (.ireturn, 1) := by decide +kernel
theorem dX6_nextSeed_0 : decode cX6_nextSeed 0 = .ok (.iload_n 0, 1) := by decide +kernel
theorem dX6_nextSeed_1 : decode cX6_nextSeed 1 = .ok (.ldc_w 334, 3) := by decide +kernel
theorem dX6_nextSeed_4 : decode cX6_nextSeed 4 = .ok (.imul, 1) := by decide +kernel
theorem dX6_nextSeed_5 : decode cX6_nextSeed 5 = .ok (.ldc_w 335, 3) := by decide +kernel
theorem dX6_nextSeed_8 : decode cX6_nextSeed 8 = .ok (.iadd, 1) := by decide +kernel
theorem dX6_nextSeed_9 : decode cX6_nextSeed 9 = .ok (.ireturn, 1) := by decide +kernel
theorem dX6_drawn_0 : decode cX6_drawn 0 = .ok (.iload_n 1, 1) := by decide +kernel
theorem dX6_drawn_1 : decode cX6_drawn 1 = .ok (.iconst 1, 1) := by decide +kernel
theorem dX6_drawn_2 : decode cX6_drawn 2 = .ok (.if_icmp .ge 7, 3) := by decide +kernel
theorem dX6_drawn_5 : decode cX6_drawn 5 = .ok (.iconst 0, 1) := by decide +kernel
theorem dX6_drawn_6 : decode cX6_drawn 6 = .ok (.goto 14, 3) := by decide +kernel
theorem dX6_drawn_9 : decode cX6_drawn 9 = .ok (.iload_n 0, 1) := by decide +kernel
theorem dX6_drawn_10 : decode cX6_drawn 10 = .ok (.ldc_w 336, 3) := by decide +kernel
theorem dX6_drawn_13 : decode cX6_drawn 13 = .ok (.iand, 1) := by decide +kernel
theorem dX6_drawn_14 : decode cX6_drawn 14 = .ok (.sipush 256, 3) := by decide +kernel
theorem dX6_drawn_17 : decode cX6_drawn 17 = .ok (.idiv, 1) := by decide +kernel
theorem dX6_drawn_18 : decode cX6_drawn 18 = .ok (.iload_n 1, 1) := by decide +kernel
theorem dX6_drawn_19 : decode cX6_drawn 19 = .ok (.irem, 1) := by decide +kernel
theorem dX6_drawn_20 : decode cX6_drawn 20 = .ok (.ireturn, 1) := by decide +kernel
theorem dX6_power_0 : decode cX6_power 0 = .ok (.lconst 1, 1) := by decide +kernel
theorem dX6_power_1 : decode cX6_power 1 = .ok (.lstore_n 3, 1) := by decide +kernel
theorem dX6_power_2 : decode cX6_power 2 = .ok (.iconst 0, 1) := by decide +kernel
theorem dX6_power_3 : decode cX6_power 3 = .ok (.istore 5, 2) := by decide +kernel
theorem dX6_power_5 : decode cX6_power 5 = .ok (.iload 5, 2) := by decide +kernel
theorem dX6_power_7 : decode cX6_power 7 = .ok (.iload_n 2, 1) := by decide +kernel
theorem dX6_power_8 : decode cX6_power 8 = .ok (.if_icmp .ge 13, 3) := by decide +kernel
theorem dX6_power_11 : decode cX6_power 11 = .ok (.lload_n 3, 1) := by decide +kernel
theorem dX6_power_12 : decode cX6_power 12 = .ok (.lload_n 0, 1) := by decide +kernel
theorem dX6_power_13 : decode cX6_power 13 = .ok (.lmul, 1) := by decide +kernel
theorem dX6_power_14 : decode cX6_power 14 = .ok (.lstore_n 3, 1) := by decide +kernel
theorem dX6_power_15 : decode cX6_power 15 = .ok (.iinc 5 1, 3) := by decide +kernel
theorem dX6_power_18 : decode cX6_power 18 = .ok (.goto (-13), 3) := by decide +kernel
theorem dX6_power_21 : decode cX6_power 21 = .ok (.lload_n 3, 1) := by decide +kernel
theorem dX6_power_22 : decode cX6_power 22 = .ok (.lreturn, 1) := by decide +kernel
theorem dX6_fraction_0 : decode cX6_fraction 0 = .ok (.lload_n 0, 1) := by decide +kernel
theorem dX6_fraction_1 : decode cX6_fraction 1 = .ok (.lconst 0, 1) := by decide +kernel
theorem dX6_fraction_2 : decode cX6_fraction 2 = .ok (.lcmp, 1) := by decide +kernel
theorem dX6_fraction_3 : decode cX6_fraction 3 = .ok (.ifCond .eq 9, 3) := by decide +kernel
theorem dX6_fraction_6 : decode cX6_fraction 6 = .ok (.lload_n 2, 1) := by decide +kernel
theorem dX6_fraction_7 : decode cX6_fraction 7 = .ok (.lconst 0, 1) := by decide +kernel
theorem dX6_fraction_8 : decode cX6_fraction 8 = .ok (.lcmp, 1) := by decide +kernel
theorem dX6_fraction_9 : decode cX6_fraction 9 = .ok (.ifCond .ne 7, 3) := by decide +kernel
theorem dX6_fraction_12 : decode cX6_fraction 12 = .ok (.iload 4, 2) := by decide +kernel
theorem dX6_fraction_14 : decode cX6_fraction 14 = .ok (.i2l, 1) := by decide +kernel
theorem dX6_fraction_15 : decode cX6_fraction 15 = .ok (.lreturn, 1) := by decide +kernel
theorem dX6_fraction_16 : decode cX6_fraction 16 = .ok (.lload_n 0, 1) := by decide +kernel
theorem dX6_fraction_17 : decode cX6_fraction 17 = .ok (.lload_n 2, 1) := by decide +kernel
theorem dX6_fraction_18 : decode cX6_fraction 18 = .ok (.invokestatic 337, 3) := by decide +kernel
theorem dX6_fraction_21 : decode cX6_fraction 21 = .ok (.lstore 5, 2) := by decide +kernel
theorem dX6_fraction_23 : decode cX6_fraction 23 = .ok (.iload 4, 2) := by decide +kernel
theorem dX6_fraction_25 : decode cX6_fraction 25 = .ok (.ifCond .ne 7, 3) := by decide +kernel
theorem dX6_fraction_28 : decode cX6_fraction 28 = .ok (.lload_n 0, 1) := by decide +kernel
theorem dX6_fraction_29 : decode cX6_fraction 29 = .ok (.goto 4, 3) := by decide +kernel
theorem dX6_fraction_32 : decode cX6_fraction 32 = .ok (.lload_n 2, 1) := by decide +kernel
theorem dX6_fraction_33 : decode cX6_fraction 33 = .ok (.lstore 7, 2) := by decide +kernel
theorem dX6_fraction_35 : decode cX6_fraction 35 = .ok (.lload 5, 2) := by decide +kernel
theorem dX6_fraction_37 : decode cX6_fraction 37 = .ok (.lconst 0, 1) := by decide +kernel
theorem dX6_fraction_38 : decode cX6_fraction 38 = .ok (.lcmp, 1) := by decide +kernel
theorem dX6_fraction_39 : decode cX6_fraction 39 = .ok (.ifCond .ne 8, 3) := by decide +kernel
theorem dX6_fraction_42 : decode cX6_fraction 42 = .ok (.lload 7, 2) := by decide +kernel
theorem dX6_fraction_44 : decode cX6_fraction 44 = .ok (.goto 8, 3) := by decide +kernel
theorem dX6_fraction_47 : decode cX6_fraction 47 = .ok (.lload 7, 2) := by decide +kernel
theorem dX6_fraction_49 : decode cX6_fraction 49 = .ok (.lload 5, 2) := by decide +kernel
theorem dX6_fraction_51 : decode cX6_fraction 51 = .ok (.ldiv, 1) := by decide +kernel
theorem dX6_fraction_52 : decode cX6_fraction 52 = .ok (.lreturn, 1) := by decide +kernel
theorem dX6_greatestDivisor_0 : decode cX6_greatestDivisor 0 = .ok (.lload_n 0, 1) := by decide +kernel
theorem dX6_greatestDivisor_1 : decode cX6_greatestDivisor 1 = .ok (.lstore 4, 2) := by decide +kernel
theorem dX6_greatestDivisor_3 : decode cX6_greatestDivisor 3 = .ok (.lload_n 2, 1) := by decide +kernel
theorem dX6_greatestDivisor_4 : decode cX6_greatestDivisor 4 = .ok (.lstore 6, 2) := by decide +kernel
theorem dX6_greatestDivisor_6 : decode cX6_greatestDivisor 6 = .ok (.iconst 0, 1) := by decide +kernel
theorem dX6_greatestDivisor_7 : decode cX6_greatestDivisor 7 = .ok (.istore 8, 2) := by decide +kernel
theorem dX6_greatestDivisor_9 : decode cX6_greatestDivisor 9 = .ok (.iload 8, 2) := by decide +kernel
theorem dX6_greatestDivisor_11 : decode cX6_greatestDivisor 11 = .ok (.sipush 200, 3) := by decide +kernel
theorem dX6_greatestDivisor_14 : decode cX6_greatestDivisor 14 = .ok (.if_icmp .ge 31, 3) := by decide +kernel
theorem dX6_greatestDivisor_17 : decode cX6_greatestDivisor 17 = .ok (.lload 6, 2) := by decide +kernel
theorem dX6_greatestDivisor_19 : decode cX6_greatestDivisor 19 = .ok (.lconst 0, 1) := by decide +kernel
theorem dX6_greatestDivisor_20 : decode cX6_greatestDivisor 20 = .ok (.lcmp, 1) := by decide +kernel
theorem dX6_greatestDivisor_21 : decode cX6_greatestDivisor 21 = .ok (.ifCond .eq 24, 3) := by decide +kernel
theorem dX6_greatestDivisor_24 : decode cX6_greatestDivisor 24 = .ok (.lload 4, 2) := by decide +kernel
theorem dX6_greatestDivisor_26 : decode cX6_greatestDivisor 26 = .ok (.lload 6, 2) := by decide +kernel
theorem dX6_greatestDivisor_28 : decode cX6_greatestDivisor 28 = .ok (.lrem, 1) := by decide +kernel
theorem dX6_greatestDivisor_29 : decode cX6_greatestDivisor 29 = .ok (.lstore 9, 2) := by decide +kernel
theorem dX6_greatestDivisor_31 : decode cX6_greatestDivisor 31 = .ok (.lload 6, 2) := by decide +kernel
theorem dX6_greatestDivisor_33 : decode cX6_greatestDivisor 33 = .ok (.lstore 4, 2) := by decide +kernel
theorem dX6_greatestDivisor_35 : decode cX6_greatestDivisor 35 = .ok (.lload 9, 2) := by decide +kernel
theorem dX6_greatestDivisor_37 : decode cX6_greatestDivisor 37 = .ok (.lstore 6, 2) := by decide +kernel
theorem dX6_greatestDivisor_39 : decode cX6_greatestDivisor 39 = .ok (.iinc 8 1, 3) := by decide +kernel
theorem dX6_greatestDivisor_42 : decode cX6_greatestDivisor 42 = .ok (.goto (-33), 3) := by decide +kernel
theorem dX6_greatestDivisor_45 : decode cX6_greatestDivisor 45 = .ok (.lload 4, 2) := by decide +kernel
theorem dX6_greatestDivisor_47 : decode cX6_greatestDivisor 47 = .ok (.lreturn, 1) := by decide +kernel
theorem dX7_init_0 : decode cX7_init 0 = .ok (.aload_n 0, 1) := by decide +kernel
theorem dX7_init_1 : decode cX7_init 1 = .ok (.invokespecial 1, 3) := by decide +kernel
theorem dX7_init_4 : decode cX7_init 4 = .ok (.aload_n 0, 1) := by decide +kernel
theorem dX7_init_5 : decode cX7_init 5 = .ok (.bipush 6, 2) := by decide +kernel
theorem dX7_init_7 : decode cX7_init 7 = .ok (.newarray .int, 2) := by decide +kernel
theorem dX7_init_9 : decode cX7_init 9 = .ok (.putfield 9, 3) := by decide +kernel
theorem dX7_init_12 : decode cX7_init 12 = .ok (.aload_n 0, 1) := by decide +kernel
theorem dX7_init_13 : decode cX7_init 13 = .ok (.iconst 5, 1) := by decide +kernel
theorem dX7_init_14 : decode cX7_init 14 = .ok (.newarray .int, 2) := by decide +kernel
theorem dX7_init_16 : decode cX7_init 16 = .ok (.putfield 13, 3) := by decide +kernel
theorem dX7_init_19 : decode cX7_init 19 = .ok (.aload_n 0, 1) := by decide +kernel
theorem dX7_init_20 : decode cX7_init 20 = .ok (.iconst 5, 1) := by decide +kernel
theorem dX7_init_21 : decode cX7_init 21 = .ok (.newarray .int, 2) := by decide +kernel
theorem dX7_init_23 : decode cX7_init 23 = .ok (.putfield 16, 3) := by decide +kernel
theorem dX7_init_26 : decode cX7_init 26 = .ok (.aload_n 0, 1) := by decide +kernel
theorem dX7_init_27 : decode cX7_init 27 = .ok (.bipush 10, 2) := by decide +kernel
theorem dX7_init_29 : decode cX7_init 29 = .ok (.newarray .int, 2) := by decide +kernel
theorem dX7_init_31 : decode cX7_init 31 = .ok (.putfield 19, 3) := by decide +kernel
theorem dX7_init_34 : decode cX7_init 34 = .ok (.aload_n 0, 1) := by decide +kernel
theorem dX7_init_35 : decode cX7_init 35 = .ok (.bipush 10, 2) := by decide +kernel
theorem dX7_init_37 : decode cX7_init 37 = .ok (.newarray .int, 2) := by decide +kernel
theorem dX7_init_39 : decode cX7_init 39 = .ok (.putfield 22, 3) := by decide +kernel
theorem dX7_init_42 : decode cX7_init 42 = .ok (.aload_n 0, 1) := by decide +kernel
theorem dX7_init_43 : decode cX7_init 43 = .ok (.bipush 10, 2) := by decide +kernel
theorem dX7_init_45 : decode cX7_init 45 = .ok (.newarray .int, 2) := by decide +kernel
theorem dX7_init_47 : decode cX7_init 47 = .ok (.putfield 25, 3) := by decide +kernel
theorem dX7_init_50 : decode cX7_init 50 = .ok (.aload_n 0, 1) := by decide +kernel
theorem dX7_init_51 : decode cX7_init 51 = .ok (.bipush 7, 2) := by decide +kernel
theorem dX7_init_53 : decode cX7_init 53 = .ok (.newarray .int, 2) := by decide +kernel
theorem dX7_init_55 : decode cX7_init 55 = .ok (.putfield 28, 3) := by decide +kernel
theorem dX7_init_58 : decode cX7_init 58 = .ok (.aload_n 0, 1) := by decide +kernel
theorem dX7_init_59 : decode cX7_init 59 = .ok (.sipush 1024, 3) := by decide +kernel
theorem dX7_init_62 : decode cX7_init 62 = .ok (.newarray .int, 2) := by decide +kernel
theorem dX7_init_64 : decode cX7_init 64 = .ok (.putfield 31, 3) := by decide +kernel
theorem dX7_init_67 : decode cX7_init 67 = .ok (.aload_n 0, 1) := by decide +kernel
theorem dX7_init_68 : decode cX7_init 68 = .ok (.sipush 1024, 3) := by decide +kernel
theorem dX7_init_71 : decode cX7_init 71 = .ok (.newarray .int, 2) := by decide +kernel
theorem dX7_init_73 : decode cX7_init 73 = .ok (.putfield 34, 3) := by decide +kernel
theorem dX7_init_76 : decode cX7_init 76 = .ok (.aload_n 0, 1) := by decide +kernel
theorem dX7_init_77 : decode cX7_init 77 = .ok (.iconst 5, 1) := by decide +kernel
theorem dX7_init_78 : decode cX7_init 78 = .ok (.newarray .int, 2) := by decide +kernel
theorem dX7_init_80 : decode cX7_init 80 = .ok (.putfield 37, 3) := by decide +kernel
theorem dX7_init_83 : decode cX7_init 83 = .ok (.aload_n 0, 1) := by decide +kernel
theorem dX7_init_84 : decode cX7_init 84 = .ok (.bipush (-9), 2) := by decide +kernel
theorem dX7_init_86 : decode cX7_init 86 = .ok (.putfield 40, 3) := by decide +kernel
theorem dX7_init_89 : decode cX7_init 89 = .ok (.aload_n 0, 1) := by decide +kernel
theorem dX7_init_90 : decode cX7_init 90 = .ok (.bipush 96, 2) := by decide +kernel
theorem dX7_init_92 : decode cX7_init 92 = .ok (.newarray .int, 2) := by decide +kernel
theorem dX7_init_94 : decode cX7_init 94 = .ok (.putfield 44, 3) := by decide +kernel
theorem dX7_init_97 : decode cX7_init 97 = .ok (.aload_n 0, 1) := by decide +kernel
theorem dX7_init_98 : decode cX7_init 98 = .ok (.iconst 5, 1) := by decide +kernel
theorem dX7_init_99 : decode cX7_init 99 = .ok (.anewarray 47, 3) := by decide +kernel
theorem dX7_init_102 : decode cX7_init 102 = .ok (.dup, 1) := by decide +kernel
theorem dX7_init_103 : decode cX7_init 103 = .ok (.iconst 0, 1) := by decide +kernel
theorem dX7_init_104 : decode cX7_init 104 = .ok (.ldc 49, 2) := by decide +kernel
theorem dX7_init_106 : decode cX7_init 106 = .ok (.aastore, 1) := by decide +kernel
theorem dX7_init_107 : decode cX7_init 107 = .ok (.dup, 1) := by decide +kernel
theorem dX7_init_108 : decode cX7_init 108 = .ok (.iconst 1, 1) := by decide +kernel
theorem dX7_init_109 : decode cX7_init 109 = .ok (.ldc 51, 2) := by decide +kernel
theorem dX7_init_111 : decode cX7_init 111 = .ok (.aastore, 1) := by decide +kernel
theorem dX7_init_112 : decode cX7_init 112 = .ok (.dup, 1) := by decide +kernel
theorem dX7_init_113 : decode cX7_init 113 = .ok (.iconst 2, 1) := by decide +kernel
theorem dX7_init_114 : decode cX7_init 114 = .ok (.ldc 53, 2) := by decide +kernel
theorem dX7_init_116 : decode cX7_init 116 = .ok (.aastore, 1) := by decide +kernel
theorem dX7_init_117 : decode cX7_init 117 = .ok (.dup, 1) := by decide +kernel
theorem dX7_init_118 : decode cX7_init 118 = .ok (.iconst 3, 1) := by decide +kernel
theorem dX7_init_119 : decode cX7_init 119 = .ok (.ldc 54, 2) := by decide +kernel
theorem dX7_init_121 : decode cX7_init 121 = .ok (.aastore, 1) := by decide +kernel
theorem dX7_init_122 : decode cX7_init 122 = .ok (.dup, 1) := by decide +kernel
theorem dX7_init_123 : decode cX7_init 123 = .ok (.iconst 4, 1) := by decide +kernel
theorem dX7_init_124 : decode cX7_init 124 = .ok (.ldc 56, 2) := by decide +kernel
theorem dX7_init_126 : decode cX7_init 126 = .ok (.aastore, 1) := by decide +kernel
theorem dX7_init_127 : decode cX7_init 127 = .ok (.putfield 57, 3) := by decide +kernel
theorem dX7_init_130 : decode cX7_init 130 = .ok (.aload_n 0, 1) := by decide +kernel
theorem dX7_init_131 : decode cX7_init 131 = .ok (.iconst 5, 1) := by decide +kernel
theorem dX7_init_132 : decode cX7_init 132 = .ok (.anewarray 47, 3) := by decide +kernel
theorem dX7_init_135 : decode cX7_init 135 = .ok (.dup, 1) := by decide +kernel
theorem dX7_init_136 : decode cX7_init 136 = .ok (.iconst 0, 1) := by decide +kernel
theorem dX7_init_137 : decode cX7_init 137 = .ok (.ldc 61, 2) := by decide +kernel
theorem dX7_init_139 : decode cX7_init 139 = .ok (.aastore, 1) := by decide +kernel
theorem dX7_init_140 : decode cX7_init 140 = .ok (.dup, 1) := by decide +kernel
theorem dX7_init_141 : decode cX7_init 141 = .ok (.iconst 1, 1) := by decide +kernel
theorem dX7_init_142 : decode cX7_init 142 = .ok (.ldc 63, 2) := by decide +kernel
theorem dX7_init_144 : decode cX7_init 144 = .ok (.aastore, 1) := by decide +kernel
theorem dX7_init_145 : decode cX7_init 145 = .ok (.dup, 1) := by decide +kernel
theorem dX7_init_146 : decode cX7_init 146 = .ok (.iconst 2, 1) := by decide +kernel
theorem dX7_init_147 : decode cX7_init 147 = .ok (.ldc 65, 2) := by decide +kernel
theorem dX7_init_149 : decode cX7_init 149 = .ok (.aastore, 1) := by decide +kernel
theorem dX7_init_150 : decode cX7_init 150 = .ok (.dup, 1) := by decide +kernel
theorem dX7_init_151 : decode cX7_init 151 = .ok (.iconst 3, 1) := by decide +kernel
theorem dX7_init_152 : decode cX7_init 152 = .ok (.ldc 67, 2) := by decide +kernel
theorem dX7_init_154 : decode cX7_init 154 = .ok (.aastore, 1) := by decide +kernel
theorem dX7_init_155 : decode cX7_init 155 = .ok (.dup, 1) := by decide +kernel
theorem dX7_init_156 : decode cX7_init 156 = .ok (.iconst 4, 1) := by decide +kernel
theorem dX7_init_157 : decode cX7_init 157 = .ok (.ldc 69, 2) := by decide +kernel
theorem dX7_init_159 : decode cX7_init 159 = .ok (.aastore, 1) := by decide +kernel
theorem dX7_init_160 : decode cX7_init 160 = .ok (.putfield 71, 3) := by decide +kernel
theorem dX7_init_163 : decode cX7_init 163 = .ok (.aload_n 0, 1) := by decide +kernel
theorem dX7_init_164 : decode cX7_init 164 = .ok (.iconst 3, 1) := by decide +kernel
theorem dX7_init_165 : decode cX7_init 165 = .ok (.newarray .int, 2) := by decide +kernel
theorem dX7_init_167 : decode cX7_init 167 = .ok (.putfield 74, 3) := by decide +kernel
theorem dX7_init_170 : decode cX7_init 170 = .ok (.aload_n 0, 1) := by decide +kernel
theorem dX7_init_171 : decode cX7_init 171 = .ok (.bipush 10, 2) := by decide +kernel
theorem dX7_init_173 : decode cX7_init 173 = .ok (.newarray .int, 2) := by decide +kernel
theorem dX7_init_175 : decode cX7_init 175 = .ok (.putfield 77, 3) := by decide +kernel
theorem dX7_init_178 : decode cX7_init 178 = .ok (.aload_n 0, 1) := by decide +kernel
theorem dX7_init_179 : decode cX7_init 179 = .ok (.iconst 5, 1) := by decide +kernel
theorem dX7_init_180 : decode cX7_init 180 = .ok (.newarray .int, 2) := by decide +kernel
theorem dX7_init_182 : decode cX7_init 182 = .ok (.putfield 80, 3) := by decide +kernel
theorem dX7_init_185 : decode cX7_init 185 = .ok (.aload_n 0, 1) := by decide +kernel
theorem dX7_init_186 : decode cX7_init 186 = .ok (.iconst 5, 1) := by decide +kernel
theorem dX7_init_187 : decode cX7_init 187 = .ok (.newarray .int, 2) := by decide +kernel
theorem dX7_init_189 : decode cX7_init 189 = .ok (.putfield 83, 3) := by decide +kernel
theorem dX7_init_192 : decode cX7_init 192 = .ok (.aload_n 0, 1) := by decide +kernel
theorem dX7_init_193 : decode cX7_init 193 = .ok (.iconst 5, 1) := by decide +kernel
theorem dX7_init_194 : decode cX7_init 194 = .ok (.newarray .int, 2) := by decide +kernel
theorem dX7_init_196 : decode cX7_init 196 = .ok (.putfield 86, 3) := by decide +kernel
theorem dX7_init_199 : decode cX7_init 199 = .ok (.aload_n 0, 1) := by decide +kernel
theorem dX7_init_200 : decode cX7_init 200 = .ok (.iconst 1, 1) := by decide +kernel
theorem dX7_init_201 : decode cX7_init 201 = .ok (.putfield 89, 3) := by decide +kernel
theorem dX7_init_204 : decode cX7_init 204 = .ok (.return_, 1) := by decide +kernel
theorem dX7_refuses_0 : decode cX7_refuses 0 = .ok (.aload_n 0, 1) := by decide +kernel
theorem dX7_refuses_1 : decode cX7_refuses 1 = .ok (.getfield 28, 3) := by decide +kernel
theorem dX7_refuses_4 : decode cX7_refuses 4 = .ok (.iload_n 1, 1) := by decide +kernel
theorem dX7_refuses_5 : decode cX7_refuses 5 = .ok (.ineg, 1) := by decide +kernel
theorem dX7_refuses_6 : decode cX7_refuses 6 = .ok (.dup2, 1) := by decide +kernel
theorem dX7_refuses_7 : decode cX7_refuses 7 = .ok (.iaload, 1) := by decide +kernel
theorem dX7_refuses_8 : decode cX7_refuses 8 = .ok (.iconst 1, 1) := by decide +kernel
theorem dX7_refuses_9 : decode cX7_refuses 9 = .ok (.iadd, 1) := by decide +kernel
theorem dX7_refuses_10 : decode cX7_refuses 10 = .ok (.iastore, 1) := by decide +kernel
theorem dX7_refuses_11 : decode cX7_refuses 11 = .ok (.iload_n 1, 1) := by decide +kernel
theorem dX7_refuses_12 : decode cX7_refuses 12 = .ok (.ireturn, 1) := by decide +kernel
theorem dX7_isIn_0 : decode cX7_isIn 0 = .ok (.iload_n 0, 1) := by decide +kernel
theorem dX7_isIn_1 : decode cX7_isIn 1 = .ok (.iload_n 1, 1) := by decide +kernel
theorem dX7_isIn_2 : decode cX7_isIn 2 = .ok (.if_icmp .lt 12, 3) := by decide +kernel
theorem dX7_isIn_5 : decode cX7_isIn 5 = .ok (.iload_n 0, 1) := by decide +kernel
theorem dX7_isIn_6 : decode cX7_isIn 6 = .ok (.iload_n 2, 1) := by decide +kernel
theorem dX7_isIn_7 : decode cX7_isIn 7 = .ok (.if_icmp .gt 7, 3) := by decide +kernel
theorem dX7_isIn_10 : decode cX7_isIn 10 = .ok (.iconst 1, 1) := by decide +kernel
theorem dX7_isIn_11 : decode cX7_isIn 11 = .ok (.goto 4, 3) := by decide +kernel
theorem dX7_isIn_14 : decode cX7_isIn 14 = .ok (.iconst 0, 1) := by decide +kernel
theorem dX7_isIn_15 : decode cX7_isIn 15 = .ok (.ireturn, 1) := by decide +kernel
theorem dX7_isBid_0 : decode cX7_isBid 0 = .ok (.iload_n 1, 1) := by decide +kernel
theorem dX7_isBid_1 : decode cX7_isBid 1 = .ok (.iconst 0, 1) := by decide +kernel
theorem dX7_isBid_2 : decode cX7_isBid 2 = .ok (.aload_n 0, 1) := by decide +kernel
theorem dX7_isBid_3 : decode cX7_isBid 3 = .ok (.getfield 93, 3) := by decide +kernel
theorem dX7_isBid_6 : decode cX7_isBid 6 = .ok (.iconst 1, 1) := by decide +kernel
theorem dX7_isBid_7 : decode cX7_isBid 7 = .ok (.isub, 1) := by decide +kernel
theorem dX7_isBid_8 : decode cX7_isBid 8 = .ok (.invokestatic 96, 3) := by decide +kernel
theorem dX7_isBid_11 : decode cX7_isBid 11 = .ok (.ireturn, 1) := by decide +kernel
theorem dX7_size_0 : decode cX7_size 0 = .ok (.iconst 0, 1) := by decide +kernel
theorem dX7_size_1 : decode cX7_size 1 = .ok (.istore_n 1, 1) := by decide +kernel
theorem dX7_size_2 : decode cX7_size 2 = .ok (.iload_n 0, 1) := by decide +kernel
theorem dX7_size_3 : decode cX7_size 3 = .ok (.istore_n 2, 1) := by decide +kernel
theorem dX7_size_4 : decode cX7_size 4 = .ok (.iload_n 2, 1) := by decide +kernel
theorem dX7_size_5 : decode cX7_size 5 = .ok (.ifCond .eq 15, 3) := by decide +kernel
theorem dX7_size_8 : decode cX7_size 8 = .ok (.iinc 1 1, 3) := by decide +kernel
theorem dX7_size_11 : decode cX7_size 11 = .ok (.iload_n 2, 1) := by decide +kernel
theorem dX7_size_12 : decode cX7_size 12 = .ok (.iload_n 2, 1) := by decide +kernel
theorem dX7_size_13 : decode cX7_size 13 = .ok (.iconst 1, 1) := by decide +kernel
theorem dX7_size_14 : decode cX7_size 14 = .ok (.isub, 1) := by decide +kernel
theorem dX7_size_15 : decode cX7_size 15 = .ok (.iand, 1) := by decide +kernel
theorem dX7_size_16 : decode cX7_size 16 = .ok (.istore_n 2, 1) := by decide +kernel
theorem dX7_size_17 : decode cX7_size 17 = .ok (.goto (-13), 3) := by decide +kernel
theorem dX7_size_20 : decode cX7_size 20 = .ok (.iload_n 1, 1) := by decide +kernel
theorem dX7_size_21 : decode cX7_size 21 = .ok (.ireturn, 1) := by decide +kernel
theorem dX7_has_0 : decode cX7_has 0 = .ok (.iload_n 0, 1) := by decide +kernel
theorem dX7_has_1 : decode cX7_has 1 = .ok (.iload_n 1, 1) := by decide +kernel
theorem dX7_has_2 : decode cX7_has 2 = .ok (.ishr, 1) := by decide +kernel
theorem dX7_has_3 : decode cX7_has 3 = .ok (.iconst 1, 1) := by decide +kernel
theorem dX7_has_4 : decode cX7_has 4 = .ok (.iand, 1) := by decide +kernel
theorem dX7_has_5 : decode cX7_has 5 = .ok (.iconst 1, 1) := by decide +kernel
theorem dX7_has_6 : decode cX7_has 6 = .ok (.if_icmp .ne 7, 3) := by decide +kernel
theorem dX7_has_9 : decode cX7_has 9 = .ok (.iconst 1, 1) := by decide +kernel
theorem dX7_has_10 : decode cX7_has 10 = .ok (.goto 4, 3) := by decide +kernel
theorem dX7_has_13 : decode cX7_has 13 = .ok (.iconst 0, 1) := by decide +kernel
theorem dX7_has_14 : decode cX7_has 14 = .ok (.ireturn, 1) := by decide +kernel
theorem dX7_mayWin_0 : decode cX7_mayWin 0 = .ok (.iload_n 2, 1) := by decide +kernel
theorem dX7_mayWin_1 : decode cX7_mayWin 1 = .ok (.invokestatic 100, 3) := by decide +kernel
theorem dX7_mayWin_4 : decode cX7_mayWin 4 = .ok (.istore_n 3, 1) := by decide +kernel
theorem dX7_mayWin_5 : decode cX7_mayWin 5 = .ok (.iload_n 1, 1) := by decide +kernel
theorem dX7_mayWin_6 : decode cX7_mayWin 6 = .ok (.aload_n 0, 1) := by decide +kernel
theorem dX7_mayWin_7 : decode cX7_mayWin 7 = .ok (.getfield 40, 3) := by decide +kernel
theorem dX7_mayWin_10 : decode cX7_mayWin 10 = .ok (.if_icmp .eq 7, 3) := by decide +kernel
theorem dX7_mayWin_13 : decode cX7_mayWin 13 = .ok (.iload_n 3, 1) := by decide +kernel
theorem dX7_mayWin_14 : decode cX7_mayWin 14 = .ok (.ifCond .ne 5, 3) := by decide +kernel
theorem dX7_mayWin_17 : decode cX7_mayWin 17 = .ok (.iconst 1, 1) := by decide +kernel
theorem dX7_mayWin_18 : decode cX7_mayWin 18 = .ok (.ireturn, 1) := by decide +kernel
theorem dX7_mayWin_19 : decode cX7_mayWin 19 = .ok (.aload_n 0, 1) := by decide +kernel
theorem dX7_mayWin_20 : decode cX7_mayWin 20 = .ok (.getfield 16, 3) := by decide +kernel
theorem dX7_mayWin_23 : decode cX7_mayWin 23 = .ok (.iload_n 1, 1) := by decide +kernel
theorem dX7_mayWin_24 : decode cX7_mayWin 24 = .ok (.iaload, 1) := by decide +kernel
theorem dX7_mayWin_25 : decode cX7_mayWin 25 = .ok (.istore 4, 2) := by decide +kernel
theorem dX7_mayWin_27 : decode cX7_mayWin 27 = .ok (.iconst 0, 1) := by decide +kernel
theorem dX7_mayWin_28 : decode cX7_mayWin 28 = .ok (.istore 5, 2) := by decide +kernel
theorem dX7_mayWin_30 : decode cX7_mayWin 30 = .ok (.iconst 0, 1) := by decide +kernel
theorem dX7_mayWin_31 : decode cX7_mayWin 31 = .ok (.istore 6, 2) := by decide +kernel
theorem dX7_mayWin_33 : decode cX7_mayWin 33 = .ok (.aload_n 0, 1) := by decide +kernel
theorem dX7_mayWin_34 : decode cX7_mayWin 34 = .ok (.getfield 93, 3) := by decide +kernel
theorem dX7_mayWin_37 : decode cX7_mayWin 37 = .ok (.iconst 1, 1) := by decide +kernel
theorem dX7_mayWin_38 : decode cX7_mayWin 38 = .ok (.isub, 1) := by decide +kernel
theorem dX7_mayWin_39 : decode cX7_mayWin 39 = .ok (.istore 7, 2) := by decide +kernel
theorem dX7_mayWin_41 : decode cX7_mayWin 41 = .ok (.iload 7, 2) := by decide +kernel
theorem dX7_mayWin_43 : decode cX7_mayWin 43 = .ok (.ifCond .lt 37, 3) := by decide +kernel
theorem dX7_mayWin_46 : decode cX7_mayWin 46 = .ok (.iload_n 2, 1) := by decide +kernel
theorem dX7_mayWin_47 : decode cX7_mayWin 47 = .ok (.iload 7, 2) := by decide +kernel
theorem dX7_mayWin_49 : decode cX7_mayWin 49 = .ok (.invokestatic 104, 3) := by decide +kernel
theorem dX7_mayWin_52 : decode cX7_mayWin 52 = .ok (.ifCond .ne 6, 3) := by decide +kernel
theorem dX7_mayWin_55 : decode cX7_mayWin 55 = .ok (.goto 19, 3) := by decide +kernel
theorem dX7_mayWin_58 : decode cX7_mayWin 58 = .ok (.iload 5, 2) := by decide +kernel
theorem dX7_mayWin_60 : decode cX7_mayWin 60 = .ok (.aload_n 0, 1) := by decide +kernel
theorem dX7_mayWin_61 : decode cX7_mayWin 61 = .ok (.getfield 25, 3) := by decide +kernel
theorem dX7_mayWin_64 : decode cX7_mayWin 64 = .ok (.iload 7, 2) := by decide +kernel
theorem dX7_mayWin_66 : decode cX7_mayWin 66 = .ok (.iaload, 1) := by decide +kernel
theorem dX7_mayWin_67 : decode cX7_mayWin 67 = .ok (.iadd, 1) := by decide +kernel
theorem dX7_mayWin_68 : decode cX7_mayWin 68 = .ok (.istore 5, 2) := by decide +kernel
theorem dX7_mayWin_70 : decode cX7_mayWin 70 = .ok (.iload 7, 2) := by decide +kernel
theorem dX7_mayWin_72 : decode cX7_mayWin 72 = .ok (.istore 6, 2) := by decide +kernel
theorem dX7_mayWin_74 : decode cX7_mayWin 74 = .ok (.iinc 7 (-1), 3) := by decide +kernel
theorem dX7_mayWin_77 : decode cX7_mayWin 77 = .ok (.goto (-36), 3) := by decide +kernel
theorem dX7_mayWin_80 : decode cX7_mayWin 80 = .ok (.aload_n 0, 1) := by decide +kernel
theorem dX7_mayWin_81 : decode cX7_mayWin 81 = .ok (.getfield 13, 3) := by decide +kernel
theorem dX7_mayWin_84 : decode cX7_mayWin 84 = .ok (.iload_n 1, 1) := by decide +kernel
theorem dX7_mayWin_85 : decode cX7_mayWin 85 = .ok (.iaload, 1) := by decide +kernel
theorem dX7_mayWin_86 : decode cX7_mayWin 86 = .ok (.tableswitch 101 0 4 #[34, 36, 47, 59, 75], 34) := by decide +kernel
theorem dX7_mayWin_120 : decode cX7_mayWin 120 = .ok (.iconst 1, 1) := by decide +kernel
theorem dX7_mayWin_121 : decode cX7_mayWin 121 = .ok (.ireturn, 1) := by decide +kernel
theorem dX7_mayWin_122 : decode cX7_mayWin 122 = .ok (.iload_n 3, 1) := by decide +kernel
theorem dX7_mayWin_123 : decode cX7_mayWin 123 = .ok (.iconst 1, 1) := by decide +kernel
theorem dX7_mayWin_124 : decode cX7_mayWin 124 = .ok (.if_icmp .ne 7, 3) := by decide +kernel
theorem dX7_mayWin_127 : decode cX7_mayWin 127 = .ok (.iconst 1, 1) := by decide +kernel
theorem dX7_mayWin_128 : decode cX7_mayWin 128 = .ok (.goto 4, 3) := by decide +kernel
theorem dX7_mayWin_131 : decode cX7_mayWin 131 = .ok (.iconst 0, 1) := by decide +kernel
theorem dX7_mayWin_132 : decode cX7_mayWin 132 = .ok (.ireturn, 1) := by decide +kernel
theorem dX7_mayWin_133 : decode cX7_mayWin 133 = .ok (.iload_n 3, 1) := by decide +kernel
theorem dX7_mayWin_134 : decode cX7_mayWin 134 = .ok (.iload 4, 2) := by decide +kernel
theorem dX7_mayWin_136 : decode cX7_mayWin 136 = .ok (.if_icmp .gt 7, 3) := by decide +kernel
theorem dX7_mayWin_139 : decode cX7_mayWin 139 = .ok (.iconst 1, 1) := by decide +kernel
theorem dX7_mayWin_140 : decode cX7_mayWin 140 = .ok (.goto 4, 3) := by decide +kernel
theorem dX7_mayWin_143 : decode cX7_mayWin 143 = .ok (.iconst 0, 1) := by decide +kernel
theorem dX7_mayWin_144 : decode cX7_mayWin 144 = .ok (.ireturn, 1) := by decide +kernel
theorem dX7_mayWin_145 : decode cX7_mayWin 145 = .ok (.iload 5, 2) := by decide +kernel
theorem dX7_mayWin_147 : decode cX7_mayWin 147 = .ok (.bipush 10, 2) := by decide +kernel
theorem dX7_mayWin_149 : decode cX7_mayWin 149 = .ok (.iload 4, 2) := by decide +kernel
theorem dX7_mayWin_151 : decode cX7_mayWin 151 = .ok (.imul, 1) := by decide +kernel
theorem dX7_mayWin_152 : decode cX7_mayWin 152 = .ok (.if_icmp .gt 7, 3) := by decide +kernel
theorem dX7_mayWin_155 : decode cX7_mayWin 155 = .ok (.iconst 1, 1) := by decide +kernel
theorem dX7_mayWin_156 : decode cX7_mayWin 156 = .ok (.goto 4, 3) := by decide +kernel
theorem dX7_mayWin_159 : decode cX7_mayWin 159 = .ok (.iconst 0, 1) := by decide +kernel
theorem dX7_mayWin_160 : decode cX7_mayWin 160 = .ok (.ireturn, 1) := by decide +kernel
theorem dX7_mayWin_161 : decode cX7_mayWin 161 = .ok (.iload_n 3, 1) := by decide +kernel
theorem dX7_mayWin_162 : decode cX7_mayWin 162 = .ok (.iconst 1, 1) := by decide +kernel
theorem dX7_mayWin_163 : decode cX7_mayWin 163 = .ok (.if_icmp .ne 22, 3) := by decide +kernel
theorem dX7_mayWin_166 : decode cX7_mayWin 166 = .ok (.aload_n 0, 1) := by decide +kernel
theorem dX7_mayWin_167 : decode cX7_mayWin 167 = .ok (.getfield 22, 3) := by decide +kernel
theorem dX7_mayWin_170 : decode cX7_mayWin 170 = .ok (.iload 6, 2) := by decide +kernel
theorem dX7_mayWin_172 : decode cX7_mayWin 172 = .ok (.iaload, 1) := by decide +kernel
theorem dX7_mayWin_173 : decode cX7_mayWin 173 = .ok (.invokestatic 100, 3) := by decide +kernel
theorem dX7_mayWin_176 : decode cX7_mayWin 176 = .ok (.iload 4, 2) := by decide +kernel
theorem dX7_mayWin_178 : decode cX7_mayWin 178 = .ok (.if_icmp .gt 7, 3) := by decide +kernel
theorem dX7_mayWin_181 : decode cX7_mayWin 181 = .ok (.iconst 1, 1) := by decide +kernel
theorem dX7_mayWin_182 : decode cX7_mayWin 182 = .ok (.goto 4, 3) := by decide +kernel
theorem dX7_mayWin_185 : decode cX7_mayWin 185 = .ok (.iconst 0, 1) := by decide +kernel
theorem dX7_mayWin_186 : decode cX7_mayWin 186 = .ok (.ireturn, 1) := by decide +kernel
theorem dX7_mayWin_187 : decode cX7_mayWin 187 = .ok (.iload_n 3, 1) := by decide +kernel
theorem dX7_mayWin_188 : decode cX7_mayWin 188 = .ok (.iload 4, 2) := by decide +kernel
theorem dX7_mayWin_190 : decode cX7_mayWin 190 = .ok (.if_icmp .gt 12, 3) := by decide +kernel
theorem dX7_mayWin_193 : decode cX7_mayWin 193 = .ok (.iload_n 3, 1) := by decide +kernel
theorem dX7_mayWin_194 : decode cX7_mayWin 194 = .ok (.iconst 1, 1) := by decide +kernel
theorem dX7_mayWin_195 : decode cX7_mayWin 195 = .ok (.if_icmp .le 7, 3) := by decide +kernel
theorem dX7_mayWin_198 : decode cX7_mayWin 198 = .ok (.iconst 1, 1) := by decide +kernel
theorem dX7_mayWin_199 : decode cX7_mayWin 199 = .ok (.goto 4, 3) := by decide +kernel
theorem dX7_mayWin_202 : decode cX7_mayWin 202 = .ok (.iconst 0, 1) := by decide +kernel
theorem dX7_mayWin_203 : decode cX7_mayWin 203 = .ok (.ireturn, 1) := by decide +kernel
theorem dX7_findOwn_0 : decode cX7_findOwn 0 = .ok (.iconst 0, 1) := by decide +kernel
theorem dX7_findOwn_1 : decode cX7_findOwn 1 = .ok (.istore_n 1, 1) := by decide +kernel
theorem dX7_findOwn_2 : decode cX7_findOwn 2 = .ok (.iload_n 1, 1) := by decide +kernel
theorem dX7_findOwn_3 : decode cX7_findOwn 3 = .ok (.iconst 5, 1) := by decide +kernel
theorem dX7_findOwn_4 : decode cX7_findOwn 4 = .ok (.if_icmp .ge 16, 3) := by decide +kernel
theorem dX7_findOwn_7 : decode cX7_findOwn 7 = .ok (.aload_n 0, 1) := by decide +kernel
theorem dX7_findOwn_8 : decode cX7_findOwn 8 = .ok (.getfield 37, 3) := by decide +kernel
theorem dX7_findOwn_11 : decode cX7_findOwn 11 = .ok (.iload_n 1, 1) := by decide +kernel
theorem dX7_findOwn_12 : decode cX7_findOwn 12 = .ok (.iconst 0, 1) := by decide +kernel
theorem dX7_findOwn_13 : decode cX7_findOwn 13 = .ok (.iastore, 1) := by decide +kernel
theorem dX7_findOwn_14 : decode cX7_findOwn 14 = .ok (.iinc 1 1, 3) := by decide +kernel
theorem dX7_findOwn_17 : decode cX7_findOwn 17 = .ok (.goto (-15), 3) := by decide +kernel
theorem dX7_findOwn_20 : decode cX7_findOwn 20 = .ok (.iconst 0, 1) := by decide +kernel
theorem dX7_findOwn_21 : decode cX7_findOwn 21 = .ok (.istore_n 1, 1) := by decide +kernel
theorem dX7_findOwn_22 : decode cX7_findOwn 22 = .ok (.iload_n 1, 1) := by decide +kernel
theorem dX7_findOwn_23 : decode cX7_findOwn 23 = .ok (.aload_n 0, 1) := by decide +kernel
theorem dX7_findOwn_24 : decode cX7_findOwn 24 = .ok (.getfield 93, 3) := by decide +kernel
theorem dX7_findOwn_27 : decode cX7_findOwn 27 = .ok (.if_icmp .ge 26, 3) := by decide +kernel
theorem dX7_findOwn_30 : decode cX7_findOwn 30 = .ok (.aload_n 0, 1) := by decide +kernel
theorem dX7_findOwn_31 : decode cX7_findOwn 31 = .ok (.getfield 37, 3) := by decide +kernel
theorem dX7_findOwn_34 : decode cX7_findOwn 34 = .ok (.aload_n 0, 1) := by decide +kernel
theorem dX7_findOwn_35 : decode cX7_findOwn 35 = .ok (.getfield 19, 3) := by decide +kernel
theorem dX7_findOwn_38 : decode cX7_findOwn 38 = .ok (.iload_n 1, 1) := by decide +kernel
theorem dX7_findOwn_39 : decode cX7_findOwn 39 = .ok (.iaload, 1) := by decide +kernel
theorem dX7_findOwn_40 : decode cX7_findOwn 40 = .ok (.dup2, 1) := by decide +kernel
theorem dX7_findOwn_41 : decode cX7_findOwn 41 = .ok (.iaload, 1) := by decide +kernel
theorem dX7_findOwn_42 : decode cX7_findOwn 42 = .ok (.iconst 1, 1) := by decide +kernel
theorem dX7_findOwn_43 : decode cX7_findOwn 43 = .ok (.iload_n 1, 1) := by decide +kernel
theorem dX7_findOwn_44 : decode cX7_findOwn 44 = .ok (.ishl, 1) := by decide +kernel
theorem dX7_findOwn_45 : decode cX7_findOwn 45 = .ok (.ior, 1) := by decide +kernel
theorem dX7_findOwn_46 : decode cX7_findOwn 46 = .ok (.iastore, 1) := by decide +kernel
theorem dX7_findOwn_47 : decode cX7_findOwn 47 = .ok (.iinc 1 1, 3) := by decide +kernel
theorem dX7_findOwn_50 : decode cX7_findOwn 50 = .ok (.goto (-28), 3) := by decide +kernel
theorem dX7_findOwn_53 : decode cX7_findOwn 53 = .ok (.return_, 1) := by decide +kernel
theorem dX7_itemsOf_0 : decode cX7_itemsOf 0 = .ok (.iconst 0, 1) := by decide +kernel
theorem dX7_itemsOf_1 : decode cX7_itemsOf 1 = .ok (.istore_n 2, 1) := by decide +kernel
theorem dX7_itemsOf_2 : decode cX7_itemsOf 2 = .ok (.iconst 0, 1) := by decide +kernel
theorem dX7_itemsOf_3 : decode cX7_itemsOf 3 = .ok (.istore_n 3, 1) := by decide +kernel
theorem dX7_itemsOf_4 : decode cX7_itemsOf 4 = .ok (.iload_n 3, 1) := by decide +kernel
theorem dX7_itemsOf_5 : decode cX7_itemsOf 5 = .ok (.aload_n 0, 1) := by decide +kernel
theorem dX7_itemsOf_6 : decode cX7_itemsOf 6 = .ok (.getfield 93, 3) := by decide +kernel
theorem dX7_itemsOf_9 : decode cX7_itemsOf 9 = .ok (.if_icmp .ge 42, 3) := by decide +kernel
theorem dX7_itemsOf_12 : decode cX7_itemsOf 12 = .ok (.iload_n 1, 1) := by decide +kernel
theorem dX7_itemsOf_13 : decode cX7_itemsOf 13 = .ok (.iload_n 3, 1) := by decide +kernel
theorem dX7_itemsOf_14 : decode cX7_itemsOf 14 = .ok (.invokestatic 104, 3) := by decide +kernel
theorem dX7_itemsOf_17 : decode cX7_itemsOf 17 = .ok (.ifCond .ne 6, 3) := by decide +kernel
theorem dX7_itemsOf_20 : decode cX7_itemsOf 20 = .ok (.goto 25, 3) := by decide +kernel
theorem dX7_itemsOf_23 : decode cX7_itemsOf 23 = .ok (.iload_n 2, 1) := by decide +kernel
theorem dX7_itemsOf_24 : decode cX7_itemsOf 24 = .ok (.aload_n 0, 1) := by decide +kernel
theorem dX7_itemsOf_25 : decode cX7_itemsOf 25 = .ok (.getfield 22, 3) := by decide +kernel
theorem dX7_itemsOf_28 : decode cX7_itemsOf 28 = .ok (.iload_n 3, 1) := by decide +kernel
theorem dX7_itemsOf_29 : decode cX7_itemsOf 29 = .ok (.iaload, 1) := by decide +kernel
theorem dX7_itemsOf_30 : decode cX7_itemsOf 30 = .ok (.iand, 1) := by decide +kernel
theorem dX7_itemsOf_31 : decode cX7_itemsOf 31 = .ok (.ifCond .eq 5, 3) := by decide +kernel
theorem dX7_itemsOf_34 : decode cX7_itemsOf 34 = .ok (.iconst (-1), 1) := by decide +kernel
theorem dX7_itemsOf_35 : decode cX7_itemsOf 35 = .ok (.ireturn, 1) := by decide +kernel
theorem dX7_itemsOf_36 : decode cX7_itemsOf 36 = .ok (.iload_n 2, 1) := by decide +kernel
theorem dX7_itemsOf_37 : decode cX7_itemsOf 37 = .ok (.aload_n 0, 1) := by decide +kernel
theorem dX7_itemsOf_38 : decode cX7_itemsOf 38 = .ok (.getfield 22, 3) := by decide +kernel
theorem dX7_itemsOf_41 : decode cX7_itemsOf 41 = .ok (.iload_n 3, 1) := by decide +kernel
theorem dX7_itemsOf_42 : decode cX7_itemsOf 42 = .ok (.iaload, 1) := by decide +kernel
theorem dX7_itemsOf_43 : decode cX7_itemsOf 43 = .ok (.ior, 1) := by decide +kernel
theorem dX7_itemsOf_44 : decode cX7_itemsOf 44 = .ok (.istore_n 2, 1) := by decide +kernel
theorem dX7_itemsOf_45 : decode cX7_itemsOf 45 = .ok (.iinc 3 1, 3) := by decide +kernel
theorem dX7_itemsOf_48 : decode cX7_itemsOf 48 = .ok (.goto (-44), 3) := by decide +kernel
theorem dX7_itemsOf_51 : decode cX7_itemsOf 51 = .ok (.iload_n 2, 1) := by decide +kernel
theorem dX7_itemsOf_52 : decode cX7_itemsOf 52 = .ok (.ireturn, 1) := by decide +kernel
theorem dX7_worthOf_0 : decode cX7_worthOf 0 = .ok (.iconst 0, 1) := by decide +kernel
theorem dX7_worthOf_1 : decode cX7_worthOf 1 = .ok (.istore_n 3, 1) := by decide +kernel
theorem dX7_worthOf_2 : decode cX7_worthOf 2 = .ok (.iconst 0, 1) := by decide +kernel
theorem dX7_worthOf_3 : decode cX7_worthOf 3 = .ok (.istore 4, 2) := by decide +kernel
theorem dX7_worthOf_5 : decode cX7_worthOf 5 = .ok (.iload 4, 2) := by decide +kernel
theorem dX7_worthOf_7 : decode cX7_worthOf 7 = .ok (.bipush 6, 2) := by decide +kernel
theorem dX7_worthOf_9 : decode cX7_worthOf 9 = .ok (.if_icmp .ge 32, 3) := by decide +kernel
theorem dX7_worthOf_12 : decode cX7_worthOf 12 = .ok (.iload_n 3, 1) := by decide +kernel
theorem dX7_worthOf_13 : decode cX7_worthOf 13 = .ok (.iload_n 2, 1) := by decide +kernel
theorem dX7_worthOf_14 : decode cX7_worthOf 14 = .ok (.iload 4, 2) := by decide +kernel
theorem dX7_worthOf_16 : decode cX7_worthOf 16 = .ok (.invokestatic 104, 3) := by decide +kernel
theorem dX7_worthOf_19 : decode cX7_worthOf 19 = .ok (.ifCond .eq 7, 3) := by decide +kernel
theorem dX7_worthOf_22 : decode cX7_worthOf 22 = .ok (.iconst 0, 1) := by decide +kernel
theorem dX7_worthOf_23 : decode cX7_worthOf 23 = .ok (.goto 10, 3) := by decide +kernel
theorem dX7_worthOf_26 : decode cX7_worthOf 26 = .ok (.aload_n 0, 1) := by decide +kernel
theorem dX7_worthOf_27 : decode cX7_worthOf 27 = .ok (.getfield 9, 3) := by decide +kernel
theorem dX7_worthOf_30 : decode cX7_worthOf 30 = .ok (.iload 4, 2) := by decide +kernel
theorem dX7_worthOf_32 : decode cX7_worthOf 32 = .ok (.iaload, 1) := by decide +kernel
theorem dX7_worthOf_33 : decode cX7_worthOf 33 = .ok (.iadd, 1) := by decide +kernel
theorem dX7_worthOf_34 : decode cX7_worthOf 34 = .ok (.istore_n 3, 1) := by decide +kernel
theorem dX7_worthOf_35 : decode cX7_worthOf 35 = .ok (.iinc 4 1, 3) := by decide +kernel
theorem dX7_worthOf_38 : decode cX7_worthOf 38 = .ok (.goto (-33), 3) := by decide +kernel
theorem dX7_worthOf_41 : decode cX7_worthOf 41 = .ok (.iconst 0, 1) := by decide +kernel
theorem dX7_worthOf_42 : decode cX7_worthOf 42 = .ok (.istore 4, 2) := by decide +kernel
theorem dX7_worthOf_44 : decode cX7_worthOf 44 = .ok (.iload 4, 2) := by decide +kernel
theorem dX7_worthOf_46 : decode cX7_worthOf 46 = .ok (.aload_n 0, 1) := by decide +kernel
theorem dX7_worthOf_47 : decode cX7_worthOf 47 = .ok (.getfield 93, 3) := by decide +kernel
theorem dX7_worthOf_50 : decode cX7_worthOf 50 = .ok (.if_icmp .ge 32, 3) := by decide +kernel
theorem dX7_worthOf_53 : decode cX7_worthOf 53 = .ok (.iload_n 3, 1) := by decide +kernel
theorem dX7_worthOf_54 : decode cX7_worthOf 54 = .ok (.iload_n 1, 1) := by decide +kernel
theorem dX7_worthOf_55 : decode cX7_worthOf 55 = .ok (.iload 4, 2) := by decide +kernel
theorem dX7_worthOf_57 : decode cX7_worthOf 57 = .ok (.invokestatic 104, 3) := by decide +kernel
theorem dX7_worthOf_60 : decode cX7_worthOf 60 = .ok (.ifCond .eq 13, 3) := by decide +kernel
theorem dX7_worthOf_63 : decode cX7_worthOf 63 = .ok (.aload_n 0, 1) := by decide +kernel
theorem dX7_worthOf_64 : decode cX7_worthOf 64 = .ok (.getfield 25, 3) := by decide +kernel
theorem dX7_worthOf_67 : decode cX7_worthOf 67 = .ok (.iload 4, 2) := by decide +kernel
theorem dX7_worthOf_69 : decode cX7_worthOf 69 = .ok (.iaload, 1) := by decide +kernel
theorem dX7_worthOf_70 : decode cX7_worthOf 70 = .ok (.goto 4, 3) := by decide +kernel
theorem dX7_worthOf_73 : decode cX7_worthOf 73 = .ok (.iconst 0, 1) := by decide +kernel
theorem dX7_worthOf_74 : decode cX7_worthOf 74 = .ok (.iadd, 1) := by decide +kernel
theorem dX7_worthOf_75 : decode cX7_worthOf 75 = .ok (.istore_n 3, 1) := by decide +kernel
theorem dX7_worthOf_76 : decode cX7_worthOf 76 = .ok (.iinc 4 1, 3) := by decide +kernel
theorem dX7_worthOf_79 : decode cX7_worthOf 79 = .ok (.goto (-35), 3) := by decide +kernel
theorem dX7_worthOf_82 : decode cX7_worthOf 82 = .ok (.iload_n 3, 1) := by decide +kernel
theorem dX7_worthOf_83 : decode cX7_worthOf 83 = .ok (.ireturn, 1) := by decide +kernel
theorem dX7_tabulates_0 : decode cX7_tabulates 0 = .ok (.aload_n 0, 1) := by decide +kernel
theorem dX7_tabulates_1 : decode cX7_tabulates 1 = .ok (.invokevirtual 108, 3) := by decide +kernel
theorem dX7_tabulates_4 : decode cX7_tabulates 4 = .ok (.iconst 0, 1) := by decide +kernel
theorem dX7_tabulates_5 : decode cX7_tabulates 5 = .ok (.istore_n 1, 1) := by decide +kernel
theorem dX7_tabulates_6 : decode cX7_tabulates 6 = .ok (.iload_n 1, 1) := by decide +kernel
theorem dX7_tabulates_7 : decode cX7_tabulates 7 = .ok (.iconst 1, 1) := by decide +kernel
theorem dX7_tabulates_8 : decode cX7_tabulates 8 = .ok (.aload_n 0, 1) := by decide +kernel
theorem dX7_tabulates_9 : decode cX7_tabulates 9 = .ok (.getfield 93, 3) := by decide +kernel
theorem dX7_tabulates_12 : decode cX7_tabulates 12 = .ok (.ishl, 1) := by decide +kernel
theorem dX7_tabulates_13 : decode cX7_tabulates 13 = .ok (.if_icmp .ge 91, 3) := by decide +kernel
theorem dX7_tabulates_16 : decode cX7_tabulates 16 = .ok (.aload_n 0, 1) := by decide +kernel
theorem dX7_tabulates_17 : decode cX7_tabulates 17 = .ok (.getfield 34, 3) := by decide +kernel
theorem dX7_tabulates_20 : decode cX7_tabulates 20 = .ok (.iload_n 1, 1) := by decide +kernel
theorem dX7_tabulates_21 : decode cX7_tabulates 21 = .ok (.aload_n 0, 1) := by decide +kernel
theorem dX7_tabulates_22 : decode cX7_tabulates 22 = .ok (.iload_n 1, 1) := by decide +kernel
theorem dX7_tabulates_23 : decode cX7_tabulates 23 = .ok (.invokevirtual 111, 3) := by decide +kernel
theorem dX7_tabulates_26 : decode cX7_tabulates 26 = .ok (.iastore, 1) := by decide +kernel
theorem dX7_tabulates_27 : decode cX7_tabulates 27 = .ok (.aload_n 0, 1) := by decide +kernel
theorem dX7_tabulates_28 : decode cX7_tabulates 28 = .ok (.getfield 34, 3) := by decide +kernel
theorem dX7_tabulates_31 : decode cX7_tabulates 31 = .ok (.iload_n 1, 1) := by decide +kernel
theorem dX7_tabulates_32 : decode cX7_tabulates 32 = .ok (.iaload, 1) := by decide +kernel
theorem dX7_tabulates_33 : decode cX7_tabulates 33 = .ok (.ifCond .lt 7, 3) := by decide +kernel
theorem dX7_tabulates_36 : decode cX7_tabulates 36 = .ok (.iconst 1, 1) := by decide +kernel
theorem dX7_tabulates_37 : decode cX7_tabulates 37 = .ok (.goto 4, 3) := by decide +kernel
theorem dX7_tabulates_40 : decode cX7_tabulates 40 = .ok (.iconst 0, 1) := by decide +kernel
theorem dX7_tabulates_41 : decode cX7_tabulates 41 = .ok (.istore_n 2, 1) := by decide +kernel
theorem dX7_tabulates_42 : decode cX7_tabulates 42 = .ok (.iconst 0, 1) := by decide +kernel
theorem dX7_tabulates_43 : decode cX7_tabulates 43 = .ok (.istore_n 3, 1) := by decide +kernel
theorem dX7_tabulates_44 : decode cX7_tabulates 44 = .ok (.iload_n 3, 1) := by decide +kernel
theorem dX7_tabulates_45 : decode cX7_tabulates 45 = .ok (.iconst 5, 1) := by decide +kernel
theorem dX7_tabulates_46 : decode cX7_tabulates 46 = .ok (.if_icmp .ge 27, 3) := by decide +kernel
theorem dX7_tabulates_49 : decode cX7_tabulates 49 = .ok (.iload_n 2, 1) := by decide +kernel
theorem dX7_tabulates_50 : decode cX7_tabulates 50 = .ok (.ifCond .eq 23, 3) := by decide +kernel
theorem dX7_tabulates_53 : decode cX7_tabulates 53 = .ok (.aload_n 0, 1) := by decide +kernel
theorem dX7_tabulates_54 : decode cX7_tabulates 54 = .ok (.iload_n 3, 1) := by decide +kernel
theorem dX7_tabulates_55 : decode cX7_tabulates 55 = .ok (.iload_n 1, 1) := by decide +kernel
theorem dX7_tabulates_56 : decode cX7_tabulates 56 = .ok (.aload_n 0, 1) := by decide +kernel
theorem dX7_tabulates_57 : decode cX7_tabulates 57 = .ok (.getfield 37, 3) := by decide +kernel
theorem dX7_tabulates_60 : decode cX7_tabulates 60 = .ok (.iload_n 3, 1) := by decide +kernel
theorem dX7_tabulates_61 : decode cX7_tabulates 61 = .ok (.iaload, 1) := by decide +kernel
theorem dX7_tabulates_62 : decode cX7_tabulates 62 = .ok (.iand, 1) := by decide +kernel
theorem dX7_tabulates_63 : decode cX7_tabulates 63 = .ok (.invokevirtual 114, 3) := by decide +kernel
theorem dX7_tabulates_66 : decode cX7_tabulates 66 = .ok (.istore_n 2, 1) := by decide +kernel
theorem dX7_tabulates_67 : decode cX7_tabulates 67 = .ok (.iinc 3 1, 3) := by decide +kernel
theorem dX7_tabulates_70 : decode cX7_tabulates 70 = .ok (.goto (-26), 3) := by decide +kernel
theorem dX7_tabulates_73 : decode cX7_tabulates 73 = .ok (.aload_n 0, 1) := by decide +kernel
theorem dX7_tabulates_74 : decode cX7_tabulates 74 = .ok (.getfield 31, 3) := by decide +kernel
theorem dX7_tabulates_77 : decode cX7_tabulates 77 = .ok (.iload_n 1, 1) := by decide +kernel
theorem dX7_tabulates_78 : decode cX7_tabulates 78 = .ok (.iload_n 2, 1) := by decide +kernel
theorem dX7_tabulates_79 : decode cX7_tabulates 79 = .ok (.ifCond .eq 17, 3) := by decide +kernel
theorem dX7_tabulates_82 : decode cX7_tabulates 82 = .ok (.aload_n 0, 1) := by decide +kernel
theorem dX7_tabulates_83 : decode cX7_tabulates 83 = .ok (.iload_n 1, 1) := by decide +kernel
theorem dX7_tabulates_84 : decode cX7_tabulates 84 = .ok (.aload_n 0, 1) := by decide +kernel
theorem dX7_tabulates_85 : decode cX7_tabulates 85 = .ok (.getfield 34, 3) := by decide +kernel
theorem dX7_tabulates_88 : decode cX7_tabulates 88 = .ok (.iload_n 1, 1) := by decide +kernel
theorem dX7_tabulates_89 : decode cX7_tabulates 89 = .ok (.iaload, 1) := by decide +kernel
theorem dX7_tabulates_90 : decode cX7_tabulates 90 = .ok (.invokevirtual 117, 3) := by decide +kernel
theorem dX7_tabulates_93 : decode cX7_tabulates 93 = .ok (.goto 4, 3) := by decide +kernel
theorem dX7_tabulates_96 : decode cX7_tabulates 96 = .ok (.iconst (-1), 1) := by decide +kernel
theorem dX7_tabulates_97 : decode cX7_tabulates 97 = .ok (.iastore, 1) := by decide +kernel
theorem dX7_tabulates_98 : decode cX7_tabulates 98 = .ok (.iinc 1 1, 3) := by decide +kernel
theorem dX7_tabulates_101 : decode cX7_tabulates 101 = .ok (.goto (-95), 3) := by decide +kernel
theorem dX7_tabulates_104 : decode cX7_tabulates 104 = .ok (.aload_n 0, 1) := by decide +kernel
theorem dX7_tabulates_105 : decode cX7_tabulates 105 = .ok (.iconst 0, 1) := by decide +kernel
theorem dX7_tabulates_106 : decode cX7_tabulates 106 = .ok (.putfield 89, 3) := by decide +kernel
theorem dX7_tabulates_109 : decode cX7_tabulates 109 = .ok (.return_, 1) := by decide +kernel
theorem dX7_table_0 : decode cX7_table 0 = .ok (.aload_n 0, 1) := by decide +kernel
theorem dX7_table_1 : decode cX7_table 1 = .ok (.getfield 89, 3) := by decide +kernel
theorem dX7_table_4 : decode cX7_table 4 = .ok (.ifCond .eq 7, 3) := by decide +kernel
theorem dX7_table_7 : decode cX7_table 7 = .ok (.aload_n 0, 1) := by decide +kernel
theorem dX7_table_8 : decode cX7_table 8 = .ok (.invokevirtual 121, 3) := by decide +kernel
theorem dX7_table_11 : decode cX7_table 11 = .ok (.return_, 1) := by decide +kernel
theorem dX7_isAhead_0 : decode cX7_isAhead 0 = .ok (.aload_n 0, 1) := by decide +kernel
theorem dX7_isAhead_1 : decode cX7_isAhead 1 = .ok (.getfield 31, 3) := by decide +kernel
theorem dX7_isAhead_4 : decode cX7_isAhead 4 = .ok (.iload_n 1, 1) := by decide +kernel
theorem dX7_isAhead_5 : decode cX7_isAhead 5 = .ok (.iaload, 1) := by decide +kernel
theorem dX7_isAhead_6 : decode cX7_isAhead 6 = .ok (.aload_n 0, 1) := by decide +kernel
theorem dX7_isAhead_7 : decode cX7_isAhead 7 = .ok (.getfield 31, 3) := by decide +kernel
theorem dX7_isAhead_10 : decode cX7_isAhead 10 = .ok (.iload_n 2, 1) := by decide +kernel
theorem dX7_isAhead_11 : decode cX7_isAhead 11 = .ok (.iaload, 1) := by decide +kernel
theorem dX7_isAhead_12 : decode cX7_isAhead 12 = .ok (.if_icmp .eq 24, 3) := by decide +kernel
theorem dX7_isAhead_15 : decode cX7_isAhead 15 = .ok (.aload_n 0, 1) := by decide +kernel
theorem dX7_isAhead_16 : decode cX7_isAhead 16 = .ok (.getfield 31, 3) := by decide +kernel
theorem dX7_isAhead_19 : decode cX7_isAhead 19 = .ok (.iload_n 1, 1) := by decide +kernel
theorem dX7_isAhead_20 : decode cX7_isAhead 20 = .ok (.iaload, 1) := by decide +kernel
theorem dX7_isAhead_21 : decode cX7_isAhead 21 = .ok (.aload_n 0, 1) := by decide +kernel
theorem dX7_isAhead_22 : decode cX7_isAhead 22 = .ok (.getfield 31, 3) := by decide +kernel
theorem dX7_isAhead_25 : decode cX7_isAhead 25 = .ok (.iload_n 2, 1) := by decide +kernel
theorem dX7_isAhead_26 : decode cX7_isAhead 26 = .ok (.iaload, 1) := by decide +kernel
theorem dX7_isAhead_27 : decode cX7_isAhead 27 = .ok (.if_icmp .le 7, 3) := by decide +kernel
theorem dX7_isAhead_30 : decode cX7_isAhead 30 = .ok (.iconst 1, 1) := by decide +kernel
theorem dX7_isAhead_31 : decode cX7_isAhead 31 = .ok (.goto 4, 3) := by decide +kernel
theorem dX7_isAhead_34 : decode cX7_isAhead 34 = .ok (.iconst 0, 1) := by decide +kernel
theorem dX7_isAhead_35 : decode cX7_isAhead 35 = .ok (.ireturn, 1) := by decide +kernel
theorem dX7_isAhead_36 : decode cX7_isAhead 36 = .ok (.iload_n 1, 1) := by decide +kernel
theorem dX7_isAhead_37 : decode cX7_isAhead 37 = .ok (.invokestatic 100, 3) := by decide +kernel
theorem dX7_isAhead_40 : decode cX7_isAhead 40 = .ok (.iload_n 2, 1) := by decide +kernel
theorem dX7_isAhead_41 : decode cX7_isAhead 41 = .ok (.invokestatic 100, 3) := by decide +kernel
theorem dX7_isAhead_44 : decode cX7_isAhead 44 = .ok (.isub, 1) := by decide +kernel
theorem dX7_isAhead_45 : decode cX7_isAhead 45 = .ok (.istore_n 3, 1) := by decide +kernel
theorem dX7_isAhead_46 : decode cX7_isAhead 46 = .ok (.iload_n 3, 1) := by decide +kernel
theorem dX7_isAhead_47 : decode cX7_isAhead 47 = .ok (.ifCond .eq 15, 3) := by decide +kernel
theorem dX7_isAhead_50 : decode cX7_isAhead 50 = .ok (.iload_n 3, 1) := by decide +kernel
theorem dX7_isAhead_51 : decode cX7_isAhead 51 = .ok (.ifCond .ge 7, 3) := by decide +kernel
theorem dX7_isAhead_54 : decode cX7_isAhead 54 = .ok (.iconst 1, 1) := by decide +kernel
theorem dX7_isAhead_55 : decode cX7_isAhead 55 = .ok (.goto 17, 3) := by decide +kernel
theorem dX7_isAhead_58 : decode cX7_isAhead 58 = .ok (.iconst 0, 1) := by decide +kernel
theorem dX7_isAhead_59 : decode cX7_isAhead 59 = .ok (.goto 13, 3) := by decide +kernel
theorem dX7_isAhead_62 : decode cX7_isAhead 62 = .ok (.iload_n 1, 1) := by decide +kernel
theorem dX7_isAhead_63 : decode cX7_isAhead 63 = .ok (.iload_n 2, 1) := by decide +kernel
theorem dX7_isAhead_64 : decode cX7_isAhead 64 = .ok (.if_icmp .ge 7, 3) := by decide +kernel
theorem dX7_isAhead_67 : decode cX7_isAhead 67 = .ok (.iconst 1, 1) := by decide +kernel
theorem dX7_isAhead_68 : decode cX7_isAhead 68 = .ok (.goto 4, 3) := by decide +kernel
theorem dX7_isAhead_71 : decode cX7_isAhead 71 = .ok (.iconst 0, 1) := by decide +kernel
theorem dX7_isAhead_72 : decode cX7_isAhead 72 = .ok (.ireturn, 1) := by decide +kernel
theorem dX7_winnersOf_0 : decode cX7_winnersOf 0 = .ok (.aload_n 0, 1) := by decide +kernel
theorem dX7_winnersOf_1 : decode cX7_winnersOf 1 = .ok (.invokevirtual 124, 3) := by decide +kernel
theorem dX7_winnersOf_4 : decode cX7_winnersOf 4 = .ok (.iload_n 1, 1) := by decide +kernel
theorem dX7_winnersOf_5 : decode cX7_winnersOf 5 = .ok (.aload_n 0, 1) := by decide +kernel
theorem dX7_winnersOf_6 : decode cX7_winnersOf 6 = .ok (.getfield 127, 3) := by decide +kernel
theorem dX7_winnersOf_9 : decode cX7_winnersOf 9 = .ok (.iand, 1) := by decide +kernel
theorem dX7_winnersOf_10 : decode cX7_winnersOf 10 = .ok (.istore_n 2, 1) := by decide +kernel
theorem dX7_winnersOf_11 : decode cX7_winnersOf 11 = .ok (.iconst 0, 1) := by decide +kernel
theorem dX7_winnersOf_12 : decode cX7_winnersOf 12 = .ok (.istore_n 3, 1) := by decide +kernel
theorem dX7_winnersOf_13 : decode cX7_winnersOf 13 = .ok (.iload_n 2, 1) := by decide +kernel
theorem dX7_winnersOf_14 : decode cX7_winnersOf 14 = .ok (.istore 4, 2) := by decide +kernel
theorem dX7_winnersOf_16 : decode cX7_winnersOf 16 = .ok (.iload 4, 2) := by decide +kernel
theorem dX7_winnersOf_18 : decode cX7_winnersOf 18 = .ok (.ifCond .eq 37, 3) := by decide +kernel
theorem dX7_winnersOf_21 : decode cX7_winnersOf 21 = .ok (.aload_n 0, 1) := by decide +kernel
theorem dX7_winnersOf_22 : decode cX7_winnersOf 22 = .ok (.getfield 31, 3) := by decide +kernel
theorem dX7_winnersOf_25 : decode cX7_winnersOf 25 = .ok (.iload 4, 2) := by decide +kernel
theorem dX7_winnersOf_27 : decode cX7_winnersOf 27 = .ok (.iaload, 1) := by decide +kernel
theorem dX7_winnersOf_28 : decode cX7_winnersOf 28 = .ok (.ifCond .lt 16, 3) := by decide +kernel
theorem dX7_winnersOf_31 : decode cX7_winnersOf 31 = .ok (.aload_n 0, 1) := by decide +kernel
theorem dX7_winnersOf_32 : decode cX7_winnersOf 32 = .ok (.iload 4, 2) := by decide +kernel
theorem dX7_winnersOf_34 : decode cX7_winnersOf 34 = .ok (.iload_n 3, 1) := by decide +kernel
theorem dX7_winnersOf_35 : decode cX7_winnersOf 35 = .ok (.invokevirtual 130, 3) := by decide +kernel
theorem dX7_winnersOf_38 : decode cX7_winnersOf 38 = .ok (.ifCond .eq 6, 3) := by decide +kernel
theorem dX7_winnersOf_41 : decode cX7_winnersOf 41 = .ok (.iload 4, 2) := by decide +kernel
theorem dX7_winnersOf_43 : decode cX7_winnersOf 43 = .ok (.istore_n 3, 1) := by decide +kernel
theorem dX7_winnersOf_44 : decode cX7_winnersOf 44 = .ok (.iload 4, 2) := by decide +kernel
theorem dX7_winnersOf_46 : decode cX7_winnersOf 46 = .ok (.iconst 1, 1) := by decide +kernel
theorem dX7_winnersOf_47 : decode cX7_winnersOf 47 = .ok (.isub, 1) := by decide +kernel
theorem dX7_winnersOf_48 : decode cX7_winnersOf 48 = .ok (.iload_n 2, 1) := by decide +kernel
theorem dX7_winnersOf_49 : decode cX7_winnersOf 49 = .ok (.iand, 1) := by decide +kernel
theorem dX7_winnersOf_50 : decode cX7_winnersOf 50 = .ok (.istore 4, 2) := by decide +kernel
theorem dX7_winnersOf_52 : decode cX7_winnersOf 52 = .ok (.goto (-36), 3) := by decide +kernel
theorem dX7_winnersOf_55 : decode cX7_winnersOf 55 = .ok (.iload_n 3, 1) := by decide +kernel
theorem dX7_winnersOf_56 : decode cX7_winnersOf 56 = .ok (.ireturn, 1) := by decide +kernel
theorem dX7_winnersNow_0 : decode cX7_winnersNow 0 = .ok (.aload_n 0, 1) := by decide +kernel
theorem dX7_winnersNow_1 : decode cX7_winnersNow 1 = .ok (.aload_n 0, 1) := by decide +kernel
theorem dX7_winnersNow_2 : decode cX7_winnersNow 2 = .ok (.getfield 127, 3) := by decide +kernel
theorem dX7_winnersNow_5 : decode cX7_winnersNow 5 = .ok (.invokevirtual 133, 3) := by decide +kernel
theorem dX7_winnersNow_8 : decode cX7_winnersNow 8 = .ok (.ireturn, 1) := by decide +kernel
theorem dX7_bestOf_0 : decode cX7_bestOf 0 = .ok (.aload_n 0, 1) := by decide +kernel
theorem dX7_bestOf_1 : decode cX7_bestOf 1 = .ok (.getfield 31, 3) := by decide +kernel
theorem dX7_bestOf_4 : decode cX7_bestOf 4 = .ok (.aload_n 0, 1) := by decide +kernel
theorem dX7_bestOf_5 : decode cX7_bestOf 5 = .ok (.iload_n 1, 1) := by decide +kernel
theorem dX7_bestOf_6 : decode cX7_bestOf 6 = .ok (.invokevirtual 133, 3) := by decide +kernel
theorem dX7_bestOf_9 : decode cX7_bestOf 9 = .ok (.iaload, 1) := by decide +kernel
theorem dX7_bestOf_10 : decode cX7_bestOf 10 = .ok (.ireturn, 1) := by decide +kernel
theorem dX7_letter_0 : decode cX7_letter 0 = .ok (.iload_n 1, 1) := by decide +kernel
theorem dX7_letter_1 : decode cX7_letter 1 = .ok (.ifCond .ge 10, 3) := by decide +kernel
theorem dX7_letter_4 : decode cX7_letter 4 = .ok (.aload_n 0, 1) := by decide +kernel
theorem dX7_letter_5 : decode cX7_letter 5 = .ok (.bipush (-4), 2) := by decide +kernel
theorem dX7_letter_7 : decode cX7_letter 7 = .ok (.invokevirtual 136, 3) := by decide +kernel
theorem dX7_letter_10 : decode cX7_letter 10 = .ok (.ireturn, 1) := by decide +kernel
theorem dX7_letter_11 : decode cX7_letter 11 = .ok (.iload_n 1, 1) := by decide +kernel
theorem dX7_letter_12 : decode cX7_letter 12 = .ok (.sipush 255, 3) := by decide +kernel
theorem dX7_letter_15 : decode cX7_letter 15 = .ok (.if_icmp .gt 12, 3) := by decide +kernel
theorem dX7_letter_18 : decode cX7_letter 18 = .ok (.aload_n 0, 1) := by decide +kernel
theorem dX7_letter_19 : decode cX7_letter 19 = .ok (.getfield 139, 3) := by decide +kernel
theorem dX7_letter_22 : decode cX7_letter 22 = .ok (.bipush 96, 2) := by decide +kernel
theorem dX7_letter_24 : decode cX7_letter 24 = .ok (.if_icmp .ne 10, 3) := by decide +kernel
theorem dX7_letter_27 : decode cX7_letter 27 = .ok (.aload_n 0, 1) := by decide +kernel
theorem dX7_letter_28 : decode cX7_letter 28 = .ok (.bipush (-6), 2) := by decide +kernel
theorem dX7_letter_30 : decode cX7_letter 30 = .ok (.invokevirtual 136, 3) := by decide +kernel
theorem dX7_letter_33 : decode cX7_letter 33 = .ok (.ireturn, 1) := by decide +kernel
theorem dX7_letter_34 : decode cX7_letter 34 = .ok (.aload_n 0, 1) := by decide +kernel
theorem dX7_letter_35 : decode cX7_letter 35 = .ok (.getfield 44, 3) := by decide +kernel
theorem dX7_letter_38 : decode cX7_letter 38 = .ok (.aload_n 0, 1) := by decide +kernel
theorem dX7_letter_39 : decode cX7_letter 39 = .ok (.getfield 139, 3) := by decide +kernel
theorem dX7_letter_42 : decode cX7_letter 42 = .ok (.iload_n 1, 1) := by decide +kernel
theorem dX7_letter_43 : decode cX7_letter 43 = .ok (.iastore, 1) := by decide +kernel
theorem dX7_letter_44 : decode cX7_letter 44 = .ok (.aload_n 0, 1) := by decide +kernel
theorem dX7_letter_45 : decode cX7_letter 45 = .ok (.dup, 1) := by decide +kernel
theorem dX7_letter_46 : decode cX7_letter 46 = .ok (.getfield 139, 3) := by decide +kernel
theorem dX7_letter_49 : decode cX7_letter 49 = .ok (.iconst 1, 1) := by decide +kernel
theorem dX7_letter_50 : decode cX7_letter 50 = .ok (.iadd, 1) := by decide +kernel
theorem dX7_letter_51 : decode cX7_letter 51 = .ok (.putfield 139, 3) := by decide +kernel
theorem dX7_letter_54 : decode cX7_letter 54 = .ok (.aload_n 0, 1) := by decide +kernel
theorem dX7_letter_55 : decode cX7_letter 55 = .ok (.getfield 139, 3) := by decide +kernel
theorem dX7_letter_58 : decode cX7_letter 58 = .ok (.ireturn, 1) := by decide +kernel
theorem dX7_isLetter_0 : decode cX7_isLetter 0 = .ok (.aload_n 0, 1) := by decide +kernel
theorem dX7_isLetter_1 : decode cX7_isLetter 1 = .ok (.getfield 142, 3) := by decide +kernel
theorem dX7_isLetter_4 : decode cX7_isLetter 4 = .ok (.aload_n 0, 1) := by decide +kernel
theorem dX7_isLetter_5 : decode cX7_isLetter 5 = .ok (.getfield 139, 3) := by decide +kernel
theorem dX7_isLetter_8 : decode cX7_isLetter 8 = .ok (.if_icmp .ge 26, 3) := by decide +kernel
theorem dX7_isLetter_11 : decode cX7_isLetter 11 = .ok (.aload_n 0, 1) := by decide +kernel
theorem dX7_isLetter_12 : decode cX7_isLetter 12 = .ok (.getfield 44, 3) := by decide +kernel
theorem dX7_isLetter_15 : decode cX7_isLetter 15 = .ok (.aload_n 0, 1) := by decide +kernel
theorem dX7_isLetter_16 : decode cX7_isLetter 16 = .ok (.getfield 142, 3) := by decide +kernel
theorem dX7_isLetter_19 : decode cX7_isLetter 19 = .ok (.iaload, 1) := by decide +kernel
theorem dX7_isLetter_20 : decode cX7_isLetter 20 = .ok (.bipush 97, 2) := by decide +kernel
theorem dX7_isLetter_22 : decode cX7_isLetter 22 = .ok (.bipush 122, 2) := by decide +kernel
theorem dX7_isLetter_24 : decode cX7_isLetter 24 = .ok (.invokestatic 96, 3) := by decide +kernel
theorem dX7_isLetter_27 : decode cX7_isLetter 27 = .ok (.ifCond .eq 7, 3) := by decide +kernel
theorem dX7_isLetter_30 : decode cX7_isLetter 30 = .ok (.iconst 1, 1) := by decide +kernel
theorem dX7_isLetter_31 : decode cX7_isLetter 31 = .ok (.goto 4, 3) := by decide +kernel
theorem dX7_isLetter_34 : decode cX7_isLetter 34 = .ok (.iconst 0, 1) := by decide +kernel
theorem dX7_isLetter_35 : decode cX7_isLetter 35 = .ok (.ireturn, 1) := by decide +kernel
theorem dX7_isDigit_0 : decode cX7_isDigit 0 = .ok (.aload_n 0, 1) := by decide +kernel
theorem dX7_isDigit_1 : decode cX7_isDigit 1 = .ok (.getfield 142, 3) := by decide +kernel
theorem dX7_isDigit_4 : decode cX7_isDigit 4 = .ok (.aload_n 0, 1) := by decide +kernel
theorem dX7_isDigit_5 : decode cX7_isDigit 5 = .ok (.getfield 139, 3) := by decide +kernel
theorem dX7_isDigit_8 : decode cX7_isDigit 8 = .ok (.if_icmp .ge 26, 3) := by decide +kernel
theorem dX7_isDigit_11 : decode cX7_isDigit 11 = .ok (.aload_n 0, 1) := by decide +kernel
theorem dX7_isDigit_12 : decode cX7_isDigit 12 = .ok (.getfield 44, 3) := by decide +kernel
theorem dX7_isDigit_15 : decode cX7_isDigit 15 = .ok (.aload_n 0, 1) := by decide +kernel
theorem dX7_isDigit_16 : decode cX7_isDigit 16 = .ok (.getfield 142, 3) := by decide +kernel
theorem dX7_isDigit_19 : decode cX7_isDigit 19 = .ok (.iaload, 1) := by decide +kernel
theorem dX7_isDigit_20 : decode cX7_isDigit 20 = .ok (.bipush 48, 2) := by decide +kernel
theorem dX7_isDigit_22 : decode cX7_isDigit 22 = .ok (.bipush 57, 2) := by decide +kernel
theorem dX7_isDigit_24 : decode cX7_isDigit 24 = .ok (.invokestatic 96, 3) := by decide +kernel
theorem dX7_isDigit_27 : decode cX7_isDigit 27 = .ok (.ifCond .eq 7, 3) := by decide +kernel
theorem dX7_isDigit_30 : decode cX7_isDigit 30 = .ok (.iconst 1, 1) := by decide +kernel
theorem dX7_isDigit_31 : decode cX7_isDigit 31 = .ok (.goto 4, 3) := by decide +kernel
theorem dX7_isDigit_34 : decode cX7_isDigit 34 = .ok (.iconst 0, 1) := by decide +kernel
theorem dX7_isDigit_35 : decode cX7_isDigit 35 = .ok (.ireturn, 1) := by decide +kernel
theorem dX7_isNext_0 : decode cX7_isNext 0 = .ok (.aload_n 0, 1) := by decide +kernel
theorem dX7_isNext_1 : decode cX7_isNext 1 = .ok (.getfield 142, 3) := by decide +kernel
theorem dX7_isNext_4 : decode cX7_isNext 4 = .ok (.aload_n 0, 1) := by decide +kernel
theorem dX7_isNext_5 : decode cX7_isNext 5 = .ok (.getfield 139, 3) := by decide +kernel
theorem dX7_isNext_8 : decode cX7_isNext 8 = .ok (.if_icmp .ge 16, 3) := by decide +kernel
theorem dX7_isNext_11 : decode cX7_isNext 11 = .ok (.aload_n 0, 1) := by decide +kernel
theorem dX7_isNext_12 : decode cX7_isNext 12 = .ok (.getfield 44, 3) := by decide +kernel
theorem dX7_isNext_15 : decode cX7_isNext 15 = .ok (.aload_n 0, 1) := by decide +kernel
theorem dX7_isNext_16 : decode cX7_isNext 16 = .ok (.getfield 142, 3) := by decide +kernel
theorem dX7_isNext_19 : decode cX7_isNext 19 = .ok (.iaload, 1) := by decide +kernel
theorem dX7_isNext_20 : decode cX7_isNext 20 = .ok (.iload_n 1, 1) := by decide +kernel
theorem dX7_isNext_21 : decode cX7_isNext 21 = .ok (.if_icmp .eq 5, 3) := by decide +kernel
theorem dX7_isNext_24 : decode cX7_isNext 24 = .ok (.iconst 0, 1) := by decide +kernel
theorem dX7_isNext_25 : decode cX7_isNext 25 = .ok (.ireturn, 1) := by decide +kernel
theorem dX7_isNext_26 : decode cX7_isNext 26 = .ok (.aload_n 0, 1) := by decide +kernel
theorem dX7_isNext_27 : decode cX7_isNext 27 = .ok (.dup, 1) := by decide +kernel
theorem dX7_isNext_28 : decode cX7_isNext 28 = .ok (.getfield 142, 3) := by decide +kernel
theorem dX7_isNext_31 : decode cX7_isNext 31 = .ok (.iconst 1, 1) := by decide +kernel
theorem dX7_isNext_32 : decode cX7_isNext 32 = .ok (.iadd, 1) := by decide +kernel
theorem dX7_isNext_33 : decode cX7_isNext 33 = .ok (.putfield 142, 3) := by decide +kernel
theorem dX7_isNext_36 : decode cX7_isNext 36 = .ok (.iconst 1, 1) := by decide +kernel
theorem dX7_isNext_37 : decode cX7_isNext 37 = .ok (.ireturn, 1) := by decide +kernel
theorem dX7_isWord_0 : decode cX7_isWord 0 = .ok (.aload_n 1, 1) := by decide +kernel
theorem dX7_isWord_1 : decode cX7_isWord 1 = .ok (.invokevirtual 145, 3) := by decide +kernel
theorem dX7_isWord_4 : decode cX7_isWord 4 = .ok (.iload_n 3, 1) := by decide +kernel
theorem dX7_isWord_5 : decode cX7_isWord 5 = .ok (.iload_n 2, 1) := by decide +kernel
theorem dX7_isWord_6 : decode cX7_isWord 6 = .ok (.isub, 1) := by decide +kernel
theorem dX7_isWord_7 : decode cX7_isWord 7 = .ok (.if_icmp .eq 5, 3) := by decide +kernel
theorem dX7_isWord_10 : decode cX7_isWord 10 = .ok (.iconst 0, 1) := by decide +kernel
theorem dX7_isWord_11 : decode cX7_isWord 11 = .ok (.ireturn, 1) := by decide +kernel
theorem dX7_isWord_12 : decode cX7_isWord 12 = .ok (.iload_n 2, 1) := by decide +kernel
theorem dX7_isWord_13 : decode cX7_isWord 13 = .ok (.istore 4, 2) := by decide +kernel
theorem dX7_isWord_15 : decode cX7_isWord 15 = .ok (.iload 4, 2) := by decide +kernel
theorem dX7_isWord_17 : decode cX7_isWord 17 = .ok (.iload_n 3, 1) := by decide +kernel
theorem dX7_isWord_18 : decode cX7_isWord 18 = .ok (.if_icmp .ge 29, 3) := by decide +kernel
theorem dX7_isWord_21 : decode cX7_isWord 21 = .ok (.aload_n 0, 1) := by decide +kernel
theorem dX7_isWord_22 : decode cX7_isWord 22 = .ok (.getfield 44, 3) := by decide +kernel
theorem dX7_isWord_25 : decode cX7_isWord 25 = .ok (.iload 4, 2) := by decide +kernel
theorem dX7_isWord_27 : decode cX7_isWord 27 = .ok (.iaload, 1) := by decide +kernel
theorem dX7_isWord_28 : decode cX7_isWord 28 = .ok (.aload_n 1, 1) := by decide +kernel
theorem dX7_isWord_29 : decode cX7_isWord 29 = .ok (.iload 4, 2) := by decide +kernel
theorem dX7_isWord_31 : decode cX7_isWord 31 = .ok (.iload_n 2, 1) := by decide +kernel
theorem dX7_isWord_32 : decode cX7_isWord 32 = .ok (.isub, 1) := by decide +kernel
theorem dX7_isWord_33 : decode cX7_isWord 33 = .ok (.invokevirtual 149, 3) := by decide +kernel
theorem dX7_isWord_36 : decode cX7_isWord 36 = .ok (.if_icmp .eq 5, 3) := by decide +kernel
theorem dX7_isWord_39 : decode cX7_isWord 39 = .ok (.iconst 0, 1) := by decide +kernel
theorem dX7_isWord_40 : decode cX7_isWord 40 = .ok (.ireturn, 1) := by decide +kernel
theorem dX7_isWord_41 : decode cX7_isWord 41 = .ok (.iinc 4 1, 3) := by decide +kernel
theorem dX7_isWord_44 : decode cX7_isWord 44 = .ok (.goto (-29), 3) := by decide +kernel
theorem dX7_isWord_47 : decode cX7_isWord 47 = .ok (.iconst 1, 1) := by decide +kernel
theorem dX7_isWord_48 : decode cX7_isWord 48 = .ok (.ireturn, 1) := by decide +kernel
theorem dX7_word_0 : decode cX7_word 0 = .ok (.aload_n 0, 1) := by decide +kernel
theorem dX7_word_1 : decode cX7_word 1 = .ok (.getfield 142, 3) := by decide +kernel
theorem dX7_word_4 : decode cX7_word 4 = .ok (.istore_n 1, 1) := by decide +kernel
theorem dX7_word_5 : decode cX7_word 5 = .ok (.aload_n 0, 1) := by decide +kernel
theorem dX7_word_6 : decode cX7_word 6 = .ok (.invokevirtual 153, 3) := by decide +kernel
theorem dX7_word_9 : decode cX7_word 9 = .ok (.ifCond .eq 16, 3) := by decide +kernel
theorem dX7_word_12 : decode cX7_word 12 = .ok (.aload_n 0, 1) := by decide +kernel
theorem dX7_word_13 : decode cX7_word 13 = .ok (.dup, 1) := by decide +kernel
theorem dX7_word_14 : decode cX7_word 14 = .ok (.getfield 142, 3) := by decide +kernel
theorem dX7_word_17 : decode cX7_word 17 = .ok (.iconst 1, 1) := by decide +kernel
theorem dX7_word_18 : decode cX7_word 18 = .ok (.iadd, 1) := by decide +kernel
theorem dX7_word_19 : decode cX7_word 19 = .ok (.putfield 142, 3) := by decide +kernel
theorem dX7_word_22 : decode cX7_word 22 = .ok (.goto (-17), 3) := by decide +kernel
theorem dX7_word_25 : decode cX7_word 25 = .ok (.iconst 0, 1) := by decide +kernel
theorem dX7_word_26 : decode cX7_word 26 = .ok (.istore_n 2, 1) := by decide +kernel
theorem dX7_word_27 : decode cX7_word 27 = .ok (.iload_n 2, 1) := by decide +kernel
theorem dX7_word_28 : decode cX7_word 28 = .ok (.aload_n 0, 1) := by decide +kernel
theorem dX7_word_29 : decode cX7_word 29 = .ok (.getfield 57, 3) := by decide +kernel
theorem dX7_word_32 : decode cX7_word 32 = .ok (.arraylength, 1) := by decide +kernel
theorem dX7_word_33 : decode cX7_word 33 = .ok (.if_icmp .ge 29, 3) := by decide +kernel
theorem dX7_word_36 : decode cX7_word 36 = .ok (.aload_n 0, 1) := by decide +kernel
theorem dX7_word_37 : decode cX7_word 37 = .ok (.aload_n 0, 1) := by decide +kernel
theorem dX7_word_38 : decode cX7_word 38 = .ok (.getfield 57, 3) := by decide +kernel
theorem dX7_word_41 : decode cX7_word 41 = .ok (.iload_n 2, 1) := by decide +kernel
theorem dX7_word_42 : decode cX7_word 42 = .ok (.aaload, 1) := by decide +kernel
theorem dX7_word_43 : decode cX7_word 43 = .ok (.iload_n 1, 1) := by decide +kernel
theorem dX7_word_44 : decode cX7_word 44 = .ok (.aload_n 0, 1) := by decide +kernel
theorem dX7_word_45 : decode cX7_word 45 = .ok (.getfield 142, 3) := by decide +kernel
theorem dX7_word_48 : decode cX7_word 48 = .ok (.invokevirtual 157, 3) := by decide +kernel
theorem dX7_word_51 : decode cX7_word 51 = .ok (.ifCond .eq 5, 3) := by decide +kernel
theorem dX7_word_54 : decode cX7_word 54 = .ok (.iload_n 2, 1) := by decide +kernel
theorem dX7_word_55 : decode cX7_word 55 = .ok (.ireturn, 1) := by decide +kernel
theorem dX7_word_56 : decode cX7_word 56 = .ok (.iinc 2 1, 3) := by decide +kernel
theorem dX7_word_59 : decode cX7_word 59 = .ok (.goto (-32), 3) := by decide +kernel
theorem dX7_word_62 : decode cX7_word 62 = .ok (.aload_n 0, 1) := by decide +kernel
theorem dX7_word_63 : decode cX7_word 63 = .ok (.iload_n 1, 1) := by decide +kernel
theorem dX7_word_64 : decode cX7_word 64 = .ok (.putfield 142, 3) := by decide +kernel
theorem dX7_word_67 : decode cX7_word 67 = .ok (.bipush (-9), 2) := by decide +kernel
theorem dX7_word_69 : decode cX7_word 69 = .ok (.ireturn, 1) := by decide +kernel
theorem dX7_part_0 : decode cX7_part 0 = .ok (.aload_n 0, 1) := by decide +kernel
theorem dX7_part_1 : decode cX7_part 1 = .ok (.iconst 0, 1) := by decide +kernel
theorem dX7_part_2 : decode cX7_part 2 = .ok (.putfield 161, 3) := by decide +kernel
theorem dX7_part_5 : decode cX7_part 5 = .ok (.iload_n 1, 1) := by decide +kernel
theorem dX7_part_6 : decode cX7_part 6 = .ok (.bipush 110, 2) := by decide +kernel
theorem dX7_part_8 : decode cX7_part 8 = .ok (.if_icmp .ne 83, 3) := by decide +kernel
theorem dX7_part_11 : decode cX7_part 11 = .ok (.aload_n 0, 1) := by decide +kernel
theorem dX7_part_12 : decode cX7_part 12 = .ok (.invokevirtual 164, 3) := by decide +kernel
theorem dX7_part_15 : decode cX7_part 15 = .ok (.ifCond .ne 5, 3) := by decide +kernel
theorem dX7_part_18 : decode cX7_part 18 = .ok (.iconst 0, 1) := by decide +kernel
theorem dX7_part_19 : decode cX7_part 19 = .ok (.ireturn, 1) := by decide +kernel
theorem dX7_part_20 : decode cX7_part 20 = .ok (.aload_n 0, 1) := by decide +kernel
theorem dX7_part_21 : decode cX7_part 21 = .ok (.aload_n 0, 1) := by decide +kernel
theorem dX7_part_22 : decode cX7_part 22 = .ok (.getfield 44, 3) := by decide +kernel
theorem dX7_part_25 : decode cX7_part 25 = .ok (.aload_n 0, 1) := by decide +kernel
theorem dX7_part_26 : decode cX7_part 26 = .ok (.getfield 142, 3) := by decide +kernel
theorem dX7_part_29 : decode cX7_part 29 = .ok (.iaload, 1) := by decide +kernel
theorem dX7_part_30 : decode cX7_part 30 = .ok (.bipush 48, 2) := by decide +kernel
theorem dX7_part_32 : decode cX7_part 32 = .ok (.isub, 1) := by decide +kernel
theorem dX7_part_33 : decode cX7_part 33 = .ok (.putfield 161, 3) := by decide +kernel
theorem dX7_part_36 : decode cX7_part 36 = .ok (.aload_n 0, 1) := by decide +kernel
theorem dX7_part_37 : decode cX7_part 37 = .ok (.dup, 1) := by decide +kernel
theorem dX7_part_38 : decode cX7_part 38 = .ok (.getfield 142, 3) := by decide +kernel
theorem dX7_part_41 : decode cX7_part 41 = .ok (.iconst 1, 1) := by decide +kernel
theorem dX7_part_42 : decode cX7_part 42 = .ok (.iadd, 1) := by decide +kernel
theorem dX7_part_43 : decode cX7_part 43 = .ok (.putfield 142, 3) := by decide +kernel
theorem dX7_part_46 : decode cX7_part 46 = .ok (.aload_n 0, 1) := by decide +kernel
theorem dX7_part_47 : decode cX7_part 47 = .ok (.invokevirtual 164, 3) := by decide +kernel
theorem dX7_part_50 : decode cX7_part 50 = .ok (.ifCond .ne 5, 3) := by decide +kernel
theorem dX7_part_53 : decode cX7_part 53 = .ok (.iconst 1, 1) := by decide +kernel
theorem dX7_part_54 : decode cX7_part 54 = .ok (.ireturn, 1) := by decide +kernel
theorem dX7_part_55 : decode cX7_part 55 = .ok (.aload_n 0, 1) := by decide +kernel
theorem dX7_part_56 : decode cX7_part 56 = .ok (.bipush 10, 2) := by decide +kernel
theorem dX7_part_58 : decode cX7_part 58 = .ok (.aload_n 0, 1) := by decide +kernel
theorem dX7_part_59 : decode cX7_part 59 = .ok (.getfield 161, 3) := by decide +kernel
theorem dX7_part_62 : decode cX7_part 62 = .ok (.imul, 1) := by decide +kernel
theorem dX7_part_63 : decode cX7_part 63 = .ok (.aload_n 0, 1) := by decide +kernel
theorem dX7_part_64 : decode cX7_part 64 = .ok (.getfield 44, 3) := by decide +kernel
theorem dX7_part_67 : decode cX7_part 67 = .ok (.aload_n 0, 1) := by decide +kernel
theorem dX7_part_68 : decode cX7_part 68 = .ok (.getfield 142, 3) := by decide +kernel
theorem dX7_part_71 : decode cX7_part 71 = .ok (.iaload, 1) := by decide +kernel
theorem dX7_part_72 : decode cX7_part 72 = .ok (.iadd, 1) := by decide +kernel
theorem dX7_part_73 : decode cX7_part 73 = .ok (.bipush 48, 2) := by decide +kernel
theorem dX7_part_75 : decode cX7_part 75 = .ok (.isub, 1) := by decide +kernel
theorem dX7_part_76 : decode cX7_part 76 = .ok (.putfield 161, 3) := by decide +kernel
theorem dX7_part_79 : decode cX7_part 79 = .ok (.aload_n 0, 1) := by decide +kernel
theorem dX7_part_80 : decode cX7_part 80 = .ok (.dup, 1) := by decide +kernel
theorem dX7_part_81 : decode cX7_part 81 = .ok (.getfield 142, 3) := by decide +kernel
theorem dX7_part_84 : decode cX7_part 84 = .ok (.iconst 1, 1) := by decide +kernel
theorem dX7_part_85 : decode cX7_part 85 = .ok (.iadd, 1) := by decide +kernel
theorem dX7_part_86 : decode cX7_part 86 = .ok (.putfield 142, 3) := by decide +kernel
theorem dX7_part_89 : decode cX7_part 89 = .ok (.iconst 1, 1) := by decide +kernel
theorem dX7_part_90 : decode cX7_part 90 = .ok (.ireturn, 1) := by decide +kernel
theorem dX7_part_91 : decode cX7_part 91 = .ok (.aload_n 0, 1) := by decide +kernel
theorem dX7_part_92 : decode cX7_part 92 = .ok (.invokevirtual 153, 3) := by decide +kernel
theorem dX7_part_95 : decode cX7_part 95 = .ok (.ifCond .ne 5, 3) := by decide +kernel
theorem dX7_part_98 : decode cX7_part 98 = .ok (.iconst 0, 1) := by decide +kernel
theorem dX7_part_99 : decode cX7_part 99 = .ok (.ireturn, 1) := by decide +kernel
theorem dX7_part_100 : decode cX7_part 100 = .ok (.aload_n 0, 1) := by decide +kernel
theorem dX7_part_101 : decode cX7_part 101 = .ok (.getfield 142, 3) := by decide +kernel
theorem dX7_part_104 : decode cX7_part 104 = .ok (.istore_n 2, 1) := by decide +kernel
theorem dX7_part_105 : decode cX7_part 105 = .ok (.aload_n 0, 1) := by decide +kernel
theorem dX7_part_106 : decode cX7_part 106 = .ok (.invokevirtual 153, 3) := by decide +kernel
theorem dX7_part_109 : decode cX7_part 109 = .ok (.ifCond .eq 94, 3) := by decide +kernel
theorem dX7_part_112 : decode cX7_part 112 = .ok (.iload_n 1, 1) := by decide +kernel
theorem dX7_part_113 : decode cX7_part 113 = .ok (.bipush 115, 2) := by decide +kernel
theorem dX7_part_115 : decode cX7_part 115 = .ok (.if_icmp .eq 11, 3) := by decide +kernel
theorem dX7_part_118 : decode cX7_part 118 = .ok (.aload_n 0, 1) := by decide +kernel
theorem dX7_part_119 : decode cX7_part 119 = .ok (.getfield 142, 3) := by decide +kernel
theorem dX7_part_122 : decode cX7_part 122 = .ok (.iload_n 2, 1) := by decide +kernel
theorem dX7_part_123 : decode cX7_part 123 = .ok (.if_icmp .ne 80, 3) := by decide +kernel
theorem dX7_part_126 : decode cX7_part 126 = .ok (.aload_n 0, 1) := by decide +kernel
theorem dX7_part_127 : decode cX7_part 127 = .ok (.getfield 44, 3) := by decide +kernel
theorem dX7_part_130 : decode cX7_part 130 = .ok (.aload_n 0, 1) := by decide +kernel
theorem dX7_part_131 : decode cX7_part 131 = .ok (.getfield 142, 3) := by decide +kernel
theorem dX7_part_134 : decode cX7_part 134 = .ok (.iaload, 1) := by decide +kernel
theorem dX7_part_135 : decode cX7_part 135 = .ok (.bipush 97, 2) := by decide +kernel
theorem dX7_part_137 : decode cX7_part 137 = .ok (.isub, 1) := by decide +kernel
theorem dX7_part_138 : decode cX7_part 138 = .ok (.istore_n 3, 1) := by decide +kernel
theorem dX7_part_139 : decode cX7_part 139 = .ok (.aload_n 0, 1) := by decide +kernel
theorem dX7_part_140 : decode cX7_part 140 = .ok (.aload_n 0, 1) := by decide +kernel
theorem dX7_part_141 : decode cX7_part 141 = .ok (.getfield 167, 3) := by decide +kernel
theorem dX7_part_144 : decode cX7_part 144 = .ok (.ifCond .ne 20, 3) := by decide +kernel
theorem dX7_part_147 : decode cX7_part 147 = .ok (.iload_n 3, 1) := by decide +kernel
theorem dX7_part_148 : decode cX7_part 148 = .ok (.bipush 6, 2) := by decide +kernel
theorem dX7_part_150 : decode cX7_part 150 = .ok (.if_icmp .ge 14, 3) := by decide +kernel
theorem dX7_part_153 : decode cX7_part 153 = .ok (.aload_n 0, 1) := by decide +kernel
theorem dX7_part_154 : decode cX7_part 154 = .ok (.getfield 161, 3) := by decide +kernel
theorem dX7_part_157 : decode cX7_part 157 = .ok (.iload_n 3, 1) := by decide +kernel
theorem dX7_part_158 : decode cX7_part 158 = .ok (.invokestatic 104, 3) := by decide +kernel
theorem dX7_part_161 : decode cX7_part 161 = .ok (.ifCond .eq 7, 3) := by decide +kernel
theorem dX7_part_164 : decode cX7_part 164 = .ok (.iconst 1, 1) := by decide +kernel
theorem dX7_part_165 : decode cX7_part 165 = .ok (.goto 4, 3) := by decide +kernel
theorem dX7_part_168 : decode cX7_part 168 = .ok (.iconst 0, 1) := by decide +kernel
theorem dX7_part_169 : decode cX7_part 169 = .ok (.putfield 167, 3) := by decide +kernel
theorem dX7_part_172 : decode cX7_part 172 = .ok (.iload_n 3, 1) := by decide +kernel
theorem dX7_part_173 : decode cX7_part 173 = .ok (.bipush 6, 2) := by decide +kernel
theorem dX7_part_175 : decode cX7_part 175 = .ok (.if_icmp .ge 15, 3) := by decide +kernel
theorem dX7_part_178 : decode cX7_part 178 = .ok (.aload_n 0, 1) := by decide +kernel
theorem dX7_part_179 : decode cX7_part 179 = .ok (.dup, 1) := by decide +kernel
theorem dX7_part_180 : decode cX7_part 180 = .ok (.getfield 161, 3) := by decide +kernel
theorem dX7_part_183 : decode cX7_part 183 = .ok (.iconst 1, 1) := by decide +kernel
theorem dX7_part_184 : decode cX7_part 184 = .ok (.iload_n 3, 1) := by decide +kernel
theorem dX7_part_185 : decode cX7_part 185 = .ok (.ishl, 1) := by decide +kernel
theorem dX7_part_186 : decode cX7_part 186 = .ok (.ior, 1) := by decide +kernel
theorem dX7_part_187 : decode cX7_part 187 = .ok (.putfield 161, 3) := by decide +kernel
theorem dX7_part_190 : decode cX7_part 190 = .ok (.aload_n 0, 1) := by decide +kernel
theorem dX7_part_191 : decode cX7_part 191 = .ok (.dup, 1) := by decide +kernel
theorem dX7_part_192 : decode cX7_part 192 = .ok (.getfield 142, 3) := by decide +kernel
theorem dX7_part_195 : decode cX7_part 195 = .ok (.iconst 1, 1) := by decide +kernel
theorem dX7_part_196 : decode cX7_part 196 = .ok (.iadd, 1) := by decide +kernel
theorem dX7_part_197 : decode cX7_part 197 = .ok (.putfield 142, 3) := by decide +kernel
theorem dX7_part_200 : decode cX7_part 200 = .ok (.goto (-95), 3) := by decide +kernel
theorem dX7_part_203 : decode cX7_part 203 = .ok (.iload_n 1, 1) := by decide +kernel
theorem dX7_part_204 : decode cX7_part 204 = .ok (.bipush 108, 2) := by decide +kernel
theorem dX7_part_206 : decode cX7_part 206 = .ok (.if_icmp .ne 23, 3) := by decide +kernel
theorem dX7_part_209 : decode cX7_part 209 = .ok (.aload_n 0, 1) := by decide +kernel
theorem dX7_part_210 : decode cX7_part 210 = .ok (.getfield 167, 3) := by decide +kernel
theorem dX7_part_213 : decode cX7_part 213 = .ok (.ifCond .ne 16, 3) := by decide +kernel
theorem dX7_part_216 : decode cX7_part 216 = .ok (.aload_n 0, 1) := by decide +kernel
theorem dX7_part_217 : decode cX7_part 217 = .ok (.aload_n 0, 1) := by decide +kernel
theorem dX7_part_218 : decode cX7_part 218 = .ok (.getfield 44, 3) := by decide +kernel
theorem dX7_part_221 : decode cX7_part 221 = .ok (.iload_n 2, 1) := by decide +kernel
theorem dX7_part_222 : decode cX7_part 222 = .ok (.iaload, 1) := by decide +kernel
theorem dX7_part_223 : decode cX7_part 223 = .ok (.bipush 97, 2) := by decide +kernel
theorem dX7_part_225 : decode cX7_part 225 = .ok (.isub, 1) := by decide +kernel
theorem dX7_part_226 : decode cX7_part 226 = .ok (.putfield 161, 3) := by decide +kernel
theorem dX7_part_229 : decode cX7_part 229 = .ok (.iconst 1, 1) := by decide +kernel
theorem dX7_part_230 : decode cX7_part 230 = .ok (.ireturn, 1) := by decide +kernel
theorem dX7_statement_0 : decode cX7_statement 0 = .ok (.aload_n 0, 1) := by decide +kernel
theorem dX7_statement_1 : decode cX7_statement 1 = .ok (.iconst 0, 1) := by decide +kernel
theorem dX7_statement_2 : decode cX7_statement 2 = .ok (.putfield 167, 3) := by decide +kernel
theorem dX7_statement_5 : decode cX7_statement 5 = .ok (.aload_n 0, 1) := by decide +kernel
theorem dX7_statement_6 : decode cX7_statement 6 = .ok (.invokevirtual 170, 3) := by decide +kernel
theorem dX7_statement_9 : decode cX7_statement 9 = .ok (.istore_n 1, 1) := by decide +kernel
theorem dX7_statement_10 : decode cX7_statement 10 = .ok (.iload_n 1, 1) := by decide +kernel
theorem dX7_statement_11 : decode cX7_statement 11 = .ok (.ifCond .ge 6, 3) := by decide +kernel
theorem dX7_statement_14 : decode cX7_statement 14 = .ok (.bipush (-9), 2) := by decide +kernel
theorem dX7_statement_16 : decode cX7_statement 16 = .ok (.ireturn, 1) := by decide +kernel
theorem dX7_statement_17 : decode cX7_statement 17 = .ok (.iconst 0, 1) := by decide +kernel
theorem dX7_statement_18 : decode cX7_statement 18 = .ok (.istore_n 2, 1) := by decide +kernel
theorem dX7_statement_19 : decode cX7_statement 19 = .ok (.iload_n 2, 1) := by decide +kernel
theorem dX7_statement_20 : decode cX7_statement 20 = .ok (.aload_n 0, 1) := by decide +kernel
theorem dX7_statement_21 : decode cX7_statement 21 = .ok (.getfield 71, 3) := by decide +kernel
theorem dX7_statement_24 : decode cX7_statement 24 = .ok (.iload_n 1, 1) := by decide +kernel
theorem dX7_statement_25 : decode cX7_statement 25 = .ok (.aaload, 1) := by decide +kernel
theorem dX7_statement_26 : decode cX7_statement 26 = .ok (.invokevirtual 145, 3) := by decide +kernel
theorem dX7_statement_29 : decode cX7_statement 29 = .ok (.if_icmp .ge 48, 3) := by decide +kernel
theorem dX7_statement_32 : decode cX7_statement 32 = .ok (.aload_n 0, 1) := by decide +kernel
theorem dX7_statement_33 : decode cX7_statement 33 = .ok (.bipush 32, 2) := by decide +kernel
theorem dX7_statement_35 : decode cX7_statement 35 = .ok (.invokevirtual 173, 3) := by decide +kernel
theorem dX7_statement_38 : decode cX7_statement 38 = .ok (.ifCond .eq 20, 3) := by decide +kernel
theorem dX7_statement_41 : decode cX7_statement 41 = .ok (.aload_n 0, 1) := by decide +kernel
theorem dX7_statement_42 : decode cX7_statement 42 = .ok (.aload_n 0, 1) := by decide +kernel
theorem dX7_statement_43 : decode cX7_statement 43 = .ok (.getfield 71, 3) := by decide +kernel
theorem dX7_statement_46 : decode cX7_statement 46 = .ok (.iload_n 1, 1) := by decide +kernel
theorem dX7_statement_47 : decode cX7_statement 47 = .ok (.aaload, 1) := by decide +kernel
theorem dX7_statement_48 : decode cX7_statement 48 = .ok (.iload_n 2, 1) := by decide +kernel
theorem dX7_statement_49 : decode cX7_statement 49 = .ok (.invokevirtual 149, 3) := by decide +kernel
theorem dX7_statement_52 : decode cX7_statement 52 = .ok (.invokevirtual 177, 3) := by decide +kernel
theorem dX7_statement_55 : decode cX7_statement 55 = .ok (.ifCond .ne 6, 3) := by decide +kernel
theorem dX7_statement_58 : decode cX7_statement 58 = .ok (.bipush (-9), 2) := by decide +kernel
theorem dX7_statement_60 : decode cX7_statement 60 = .ok (.ireturn, 1) := by decide +kernel
theorem dX7_statement_61 : decode cX7_statement 61 = .ok (.aload_n 0, 1) := by decide +kernel
theorem dX7_statement_62 : decode cX7_statement 62 = .ok (.getfield 74, 3) := by decide +kernel
theorem dX7_statement_65 : decode cX7_statement 65 = .ok (.iload_n 2, 1) := by decide +kernel
theorem dX7_statement_66 : decode cX7_statement 66 = .ok (.aload_n 0, 1) := by decide +kernel
theorem dX7_statement_67 : decode cX7_statement 67 = .ok (.getfield 161, 3) := by decide +kernel
theorem dX7_statement_70 : decode cX7_statement 70 = .ok (.iastore, 1) := by decide +kernel
theorem dX7_statement_71 : decode cX7_statement 71 = .ok (.iinc 2 1, 3) := by decide +kernel
theorem dX7_statement_74 : decode cX7_statement 74 = .ok (.goto (-55), 3) := by decide +kernel
theorem dX7_statement_77 : decode cX7_statement 77 = .ok (.aload_n 0, 1) := by decide +kernel
theorem dX7_statement_78 : decode cX7_statement 78 = .ok (.bipush 59, 2) := by decide +kernel
theorem dX7_statement_80 : decode cX7_statement 80 = .ok (.invokevirtual 173, 3) := by decide +kernel
theorem dX7_statement_83 : decode cX7_statement 83 = .ok (.ifCond .eq 7, 3) := by decide +kernel
theorem dX7_statement_86 : decode cX7_statement 86 = .ok (.iload_n 1, 1) := by decide +kernel
theorem dX7_statement_87 : decode cX7_statement 87 = .ok (.goto 5, 3) := by decide +kernel
theorem dX7_statement_90 : decode cX7_statement 90 = .ok (.bipush (-9), 2) := by decide +kernel
theorem dX7_statement_92 : decode cX7_statement 92 = .ok (.ireturn, 1) := by decide +kernel
theorem dX7_fits_0 : decode cX7_fits 0 = .ok (.aload_n 0, 1) := by decide +kernel
theorem dX7_fits_1 : decode cX7_fits 1 = .ok (.getfield 167, 3) := by decide +kernel
theorem dX7_fits_4 : decode cX7_fits 4 = .ok (.ifCond .eq 5, 3) := by decide +kernel
theorem dX7_fits_7 : decode cX7_fits 7 = .ok (.iconst 0, 1) := by decide +kernel
theorem dX7_fits_8 : decode cX7_fits 8 = .ok (.ireturn, 1) := by decide +kernel
theorem dX7_fits_9 : decode cX7_fits 9 = .ok (.iload_n 1, 1) := by decide +kernel
theorem dX7_fits_10 : decode cX7_fits 10 = .ok (.tableswitch 138 0 3 #[30, 64, 83, 121], 30) := by decide +kernel
theorem dX7_fits_40 : decode cX7_fits 40 = .ok (.aload_n 0, 1) := by decide +kernel
theorem dX7_fits_41 : decode cX7_fits 41 = .ok (.getfield 74, 3) := by decide +kernel
theorem dX7_fits_44 : decode cX7_fits 44 = .ok (.iconst 0, 1) := by decide +kernel
theorem dX7_fits_45 : decode cX7_fits 45 = .ok (.iaload, 1) := by decide +kernel
theorem dX7_fits_46 : decode cX7_fits 46 = .ok (.iconst 5, 1) := by decide +kernel
theorem dX7_fits_47 : decode cX7_fits 47 = .ok (.if_icmp .ge 25, 3) := by decide +kernel
theorem dX7_fits_50 : decode cX7_fits 50 = .ok (.aload_n 0, 1) := by decide +kernel
theorem dX7_fits_51 : decode cX7_fits 51 = .ok (.getfield 74, 3) := by decide +kernel
theorem dX7_fits_54 : decode cX7_fits 54 = .ok (.iconst 2, 1) := by decide +kernel
theorem dX7_fits_55 : decode cX7_fits 55 = .ok (.iaload, 1) := by decide +kernel
theorem dX7_fits_56 : decode cX7_fits 56 = .ok (.ifCond .le 16, 3) := by decide +kernel
theorem dX7_fits_59 : decode cX7_fits 59 = .ok (.aload_n 0, 1) := by decide +kernel
theorem dX7_fits_60 : decode cX7_fits 60 = .ok (.getfield 93, 3) := by decide +kernel
theorem dX7_fits_63 : decode cX7_fits 63 = .ok (.bipush 10, 2) := by decide +kernel
theorem dX7_fits_65 : decode cX7_fits 65 = .ok (.if_icmp .ge 7, 3) := by decide +kernel
theorem dX7_fits_68 : decode cX7_fits 68 = .ok (.iconst 1, 1) := by decide +kernel
theorem dX7_fits_69 : decode cX7_fits 69 = .ok (.goto 4, 3) := by decide +kernel
theorem dX7_fits_72 : decode cX7_fits 72 = .ok (.iconst 0, 1) := by decide +kernel
theorem dX7_fits_73 : decode cX7_fits 73 = .ok (.ireturn, 1) := by decide +kernel
theorem dX7_fits_74 : decode cX7_fits 74 = .ok (.aload_n 0, 1) := by decide +kernel
theorem dX7_fits_75 : decode cX7_fits 75 = .ok (.getfield 74, 3) := by decide +kernel
theorem dX7_fits_78 : decode cX7_fits 78 = .ok (.iconst 0, 1) := by decide +kernel
theorem dX7_fits_79 : decode cX7_fits 79 = .ok (.iaload, 1) := by decide +kernel
theorem dX7_fits_80 : decode cX7_fits 80 = .ok (.aload_n 0, 1) := by decide +kernel
theorem dX7_fits_81 : decode cX7_fits 81 = .ok (.getfield 93, 3) := by decide +kernel
theorem dX7_fits_84 : decode cX7_fits 84 = .ok (.if_icmp .ge 7, 3) := by decide +kernel
theorem dX7_fits_87 : decode cX7_fits 87 = .ok (.iconst 1, 1) := by decide +kernel
theorem dX7_fits_88 : decode cX7_fits 88 = .ok (.goto 4, 3) := by decide +kernel
theorem dX7_fits_91 : decode cX7_fits 91 = .ok (.iconst 0, 1) := by decide +kernel
theorem dX7_fits_92 : decode cX7_fits 92 = .ok (.ireturn, 1) := by decide +kernel
theorem dX7_fits_93 : decode cX7_fits 93 = .ok (.aload_n 0, 1) := by decide +kernel
theorem dX7_fits_94 : decode cX7_fits 94 = .ok (.getfield 74, 3) := by decide +kernel
theorem dX7_fits_97 : decode cX7_fits 97 = .ok (.iconst 0, 1) := by decide +kernel
theorem dX7_fits_98 : decode cX7_fits 98 = .ok (.iaload, 1) := by decide +kernel
theorem dX7_fits_99 : decode cX7_fits 99 = .ok (.iconst 5, 1) := by decide +kernel
theorem dX7_fits_100 : decode cX7_fits 100 = .ok (.if_icmp .ge 29, 3) := by decide +kernel
theorem dX7_fits_103 : decode cX7_fits 103 = .ok (.aload_n 0, 1) := by decide +kernel
theorem dX7_fits_104 : decode cX7_fits 104 = .ok (.getfield 74, 3) := by decide +kernel
theorem dX7_fits_107 : decode cX7_fits 107 = .ok (.iconst 1, 1) := by decide +kernel
theorem dX7_fits_108 : decode cX7_fits 108 = .ok (.iaload, 1) := by decide +kernel
theorem dX7_fits_109 : decode cX7_fits 109 = .ok (.bipush 6, 2) := by decide +kernel
theorem dX7_fits_111 : decode cX7_fits 111 = .ok (.if_icmp .ge 18, 3) := by decide +kernel
theorem dX7_fits_114 : decode cX7_fits 114 = .ok (.aload_n 0, 1) := by decide +kernel
theorem dX7_fits_115 : decode cX7_fits 115 = .ok (.getfield 74, 3) := by decide +kernel
theorem dX7_fits_118 : decode cX7_fits 118 = .ok (.iconst 2, 1) := by decide +kernel
theorem dX7_fits_119 : decode cX7_fits 119 = .ok (.iaload, 1) := by decide +kernel
theorem dX7_fits_120 : decode cX7_fits 120 = .ok (.bipush 10, 2) := by decide +kernel
theorem dX7_fits_122 : decode cX7_fits 122 = .ok (.if_icmp .ge 7, 3) := by decide +kernel
theorem dX7_fits_125 : decode cX7_fits 125 = .ok (.iconst 1, 1) := by decide +kernel
theorem dX7_fits_126 : decode cX7_fits 126 = .ok (.goto 4, 3) := by decide +kernel
theorem dX7_fits_129 : decode cX7_fits 129 = .ok (.iconst 0, 1) := by decide +kernel
theorem dX7_fits_130 : decode cX7_fits 130 = .ok (.ireturn, 1) := by decide +kernel
theorem dX7_fits_131 : decode cX7_fits 131 = .ok (.aload_n 0, 1) := by decide +kernel
theorem dX7_fits_132 : decode cX7_fits 132 = .ok (.getfield 74, 3) := by decide +kernel
theorem dX7_fits_135 : decode cX7_fits 135 = .ok (.iconst 1, 1) := by decide +kernel
theorem dX7_fits_136 : decode cX7_fits 136 = .ok (.iaload, 1) := by decide +kernel
theorem dX7_fits_137 : decode cX7_fits 137 = .ok (.bipush 10, 2) := by decide +kernel
theorem dX7_fits_139 : decode cX7_fits 139 = .ok (.if_icmp .ge 7, 3) := by decide +kernel
theorem dX7_fits_142 : decode cX7_fits 142 = .ok (.iconst 1, 1) := by decide +kernel
theorem dX7_fits_143 : decode cX7_fits 143 = .ok (.goto 4, 3) := by decide +kernel
theorem dX7_fits_146 : decode cX7_fits 146 = .ok (.iconst 0, 1) := by decide +kernel
theorem dX7_fits_147 : decode cX7_fits 147 = .ok (.ireturn, 1) := by decide +kernel
theorem dX7_fits_148 : decode cX7_fits 148 = .ok (.aload_n 0, 1) := by decide +kernel
theorem dX7_fits_149 : decode cX7_fits 149 = .ok (.getfield 74, 3) := by decide +kernel
theorem dX7_fits_152 : decode cX7_fits 152 = .ok (.iconst 0, 1) := by decide +kernel
theorem dX7_fits_153 : decode cX7_fits 153 = .ok (.iaload, 1) := by decide +kernel
theorem dX7_fits_154 : decode cX7_fits 154 = .ok (.aload_n 0, 1) := by decide +kernel
theorem dX7_fits_155 : decode cX7_fits 155 = .ok (.getfield 93, 3) := by decide +kernel
theorem dX7_fits_158 : decode cX7_fits 158 = .ok (.if_icmp .ge 16, 3) := by decide +kernel
theorem dX7_fits_161 : decode cX7_fits 161 = .ok (.aload_n 0, 1) := by decide +kernel
theorem dX7_fits_162 : decode cX7_fits 162 = .ok (.getfield 74, 3) := by decide +kernel
theorem dX7_fits_165 : decode cX7_fits 165 = .ok (.iconst 1, 1) := by decide +kernel
theorem dX7_fits_166 : decode cX7_fits 166 = .ok (.iaload, 1) := by decide +kernel
theorem dX7_fits_167 : decode cX7_fits 167 = .ok (.ifCond .le 7, 3) := by decide +kernel
theorem dX7_fits_170 : decode cX7_fits 170 = .ok (.iconst 1, 1) := by decide +kernel
theorem dX7_fits_171 : decode cX7_fits 171 = .ok (.goto 4, 3) := by decide +kernel
theorem dX7_fits_174 : decode cX7_fits 174 = .ok (.iconst 0, 1) := by decide +kernel
theorem dX7_fits_175 : decode cX7_fits 175 = .ok (.ireturn, 1) := by decide +kernel
theorem dX7_comes_0 : decode cX7_comes 0 = .ok (.aload_n 0, 1) := by decide +kernel
theorem dX7_comes_1 : decode cX7_comes 1 = .ok (.iconst 1, 1) := by decide +kernel
theorem dX7_comes_2 : decode cX7_comes 2 = .ok (.putfield 89, 3) := by decide +kernel
theorem dX7_comes_5 : decode cX7_comes 5 = .ok (.iload_n 1, 1) := by decide +kernel
theorem dX7_comes_6 : decode cX7_comes 6 = .ok (.tableswitch 180 0 3 #[30, 103, 123, 160], 30) := by decide +kernel
theorem dX7_comes_36 : decode cX7_comes 36 = .ok (.aload_n 0, 1) := by decide +kernel
theorem dX7_comes_37 : decode cX7_comes 37 = .ok (.getfield 19, 3) := by decide +kernel
theorem dX7_comes_40 : decode cX7_comes 40 = .ok (.aload_n 0, 1) := by decide +kernel
theorem dX7_comes_41 : decode cX7_comes 41 = .ok (.getfield 93, 3) := by decide +kernel
theorem dX7_comes_44 : decode cX7_comes 44 = .ok (.aload_n 0, 1) := by decide +kernel
theorem dX7_comes_45 : decode cX7_comes 45 = .ok (.getfield 74, 3) := by decide +kernel
theorem dX7_comes_48 : decode cX7_comes 48 = .ok (.iconst 0, 1) := by decide +kernel
theorem dX7_comes_49 : decode cX7_comes 49 = .ok (.iaload, 1) := by decide +kernel
theorem dX7_comes_50 : decode cX7_comes 50 = .ok (.iastore, 1) := by decide +kernel
theorem dX7_comes_51 : decode cX7_comes 51 = .ok (.aload_n 0, 1) := by decide +kernel
theorem dX7_comes_52 : decode cX7_comes 52 = .ok (.getfield 22, 3) := by decide +kernel
theorem dX7_comes_55 : decode cX7_comes 55 = .ok (.aload_n 0, 1) := by decide +kernel
theorem dX7_comes_56 : decode cX7_comes 56 = .ok (.getfield 93, 3) := by decide +kernel
theorem dX7_comes_59 : decode cX7_comes 59 = .ok (.aload_n 0, 1) := by decide +kernel
theorem dX7_comes_60 : decode cX7_comes 60 = .ok (.getfield 74, 3) := by decide +kernel
theorem dX7_comes_63 : decode cX7_comes 63 = .ok (.iconst 1, 1) := by decide +kernel
theorem dX7_comes_64 : decode cX7_comes 64 = .ok (.iaload, 1) := by decide +kernel
theorem dX7_comes_65 : decode cX7_comes 65 = .ok (.iastore, 1) := by decide +kernel
theorem dX7_comes_66 : decode cX7_comes 66 = .ok (.aload_n 0, 1) := by decide +kernel
theorem dX7_comes_67 : decode cX7_comes 67 = .ok (.getfield 25, 3) := by decide +kernel
theorem dX7_comes_70 : decode cX7_comes 70 = .ok (.aload_n 0, 1) := by decide +kernel
theorem dX7_comes_71 : decode cX7_comes 71 = .ok (.getfield 93, 3) := by decide +kernel
theorem dX7_comes_74 : decode cX7_comes 74 = .ok (.aload_n 0, 1) := by decide +kernel
theorem dX7_comes_75 : decode cX7_comes 75 = .ok (.getfield 74, 3) := by decide +kernel
theorem dX7_comes_78 : decode cX7_comes 78 = .ok (.iconst 2, 1) := by decide +kernel
theorem dX7_comes_79 : decode cX7_comes 79 = .ok (.iaload, 1) := by decide +kernel
theorem dX7_comes_80 : decode cX7_comes 80 = .ok (.iastore, 1) := by decide +kernel
theorem dX7_comes_81 : decode cX7_comes 81 = .ok (.aload_n 0, 1) := by decide +kernel
theorem dX7_comes_82 : decode cX7_comes 82 = .ok (.dup, 1) := by decide +kernel
theorem dX7_comes_83 : decode cX7_comes 83 = .ok (.getfield 127, 3) := by decide +kernel
theorem dX7_comes_86 : decode cX7_comes 86 = .ok (.iconst 1, 1) := by decide +kernel
theorem dX7_comes_87 : decode cX7_comes 87 = .ok (.aload_n 0, 1) := by decide +kernel
theorem dX7_comes_88 : decode cX7_comes 88 = .ok (.getfield 93, 3) := by decide +kernel
theorem dX7_comes_91 : decode cX7_comes 91 = .ok (.ishl, 1) := by decide +kernel
theorem dX7_comes_92 : decode cX7_comes 92 = .ok (.ior, 1) := by decide +kernel
theorem dX7_comes_93 : decode cX7_comes 93 = .ok (.putfield 127, 3) := by decide +kernel
theorem dX7_comes_96 : decode cX7_comes 96 = .ok (.aload_n 0, 1) := by decide +kernel
theorem dX7_comes_97 : decode cX7_comes 97 = .ok (.dup, 1) := by decide +kernel
theorem dX7_comes_98 : decode cX7_comes 98 = .ok (.getfield 93, 3) := by decide +kernel
theorem dX7_comes_101 : decode cX7_comes 101 = .ok (.iconst 1, 1) := by decide +kernel
theorem dX7_comes_102 : decode cX7_comes 102 = .ok (.iadd, 1) := by decide +kernel
theorem dX7_comes_103 : decode cX7_comes 103 = .ok (.putfield 93, 3) := by decide +kernel
theorem dX7_comes_106 : decode cX7_comes 106 = .ok (.goto 97, 3) := by decide +kernel
theorem dX7_comes_109 : decode cX7_comes 109 = .ok (.aload_n 0, 1) := by decide +kernel
theorem dX7_comes_110 : decode cX7_comes 110 = .ok (.dup, 1) := by decide +kernel
theorem dX7_comes_111 : decode cX7_comes 111 = .ok (.getfield 127, 3) := by decide +kernel
theorem dX7_comes_114 : decode cX7_comes 114 = .ok (.iconst 1, 1) := by decide +kernel
theorem dX7_comes_115 : decode cX7_comes 115 = .ok (.aload_n 0, 1) := by decide +kernel
theorem dX7_comes_116 : decode cX7_comes 116 = .ok (.getfield 74, 3) := by decide +kernel
theorem dX7_comes_119 : decode cX7_comes 119 = .ok (.iconst 0, 1) := by decide +kernel
theorem dX7_comes_120 : decode cX7_comes 120 = .ok (.iaload, 1) := by decide +kernel
theorem dX7_comes_121 : decode cX7_comes 121 = .ok (.ishl, 1) := by decide +kernel
theorem dX7_comes_122 : decode cX7_comes 122 = .ok (.ixor, 1) := by decide +kernel
theorem dX7_comes_123 : decode cX7_comes 123 = .ok (.putfield 127, 3) := by decide +kernel
theorem dX7_comes_126 : decode cX7_comes 126 = .ok (.goto 77, 3) := by decide +kernel
theorem dX7_comes_129 : decode cX7_comes 129 = .ok (.aload_n 0, 1) := by decide +kernel
theorem dX7_comes_130 : decode cX7_comes 130 = .ok (.getfield 13, 3) := by decide +kernel
theorem dX7_comes_133 : decode cX7_comes 133 = .ok (.aload_n 0, 1) := by decide +kernel
theorem dX7_comes_134 : decode cX7_comes 134 = .ok (.getfield 74, 3) := by decide +kernel
theorem dX7_comes_137 : decode cX7_comes 137 = .ok (.iconst 0, 1) := by decide +kernel
theorem dX7_comes_138 : decode cX7_comes 138 = .ok (.iaload, 1) := by decide +kernel
theorem dX7_comes_139 : decode cX7_comes 139 = .ok (.aload_n 0, 1) := by decide +kernel
theorem dX7_comes_140 : decode cX7_comes 140 = .ok (.getfield 74, 3) := by decide +kernel
theorem dX7_comes_143 : decode cX7_comes 143 = .ok (.iconst 1, 1) := by decide +kernel
theorem dX7_comes_144 : decode cX7_comes 144 = .ok (.iaload, 1) := by decide +kernel
theorem dX7_comes_145 : decode cX7_comes 145 = .ok (.iastore, 1) := by decide +kernel
theorem dX7_comes_146 : decode cX7_comes 146 = .ok (.aload_n 0, 1) := by decide +kernel
theorem dX7_comes_147 : decode cX7_comes 147 = .ok (.getfield 16, 3) := by decide +kernel
theorem dX7_comes_150 : decode cX7_comes 150 = .ok (.aload_n 0, 1) := by decide +kernel
theorem dX7_comes_151 : decode cX7_comes 151 = .ok (.getfield 74, 3) := by decide +kernel
theorem dX7_comes_154 : decode cX7_comes 154 = .ok (.iconst 0, 1) := by decide +kernel
theorem dX7_comes_155 : decode cX7_comes 155 = .ok (.iaload, 1) := by decide +kernel
theorem dX7_comes_156 : decode cX7_comes 156 = .ok (.aload_n 0, 1) := by decide +kernel
theorem dX7_comes_157 : decode cX7_comes 157 = .ok (.getfield 74, 3) := by decide +kernel
theorem dX7_comes_160 : decode cX7_comes 160 = .ok (.iconst 2, 1) := by decide +kernel
theorem dX7_comes_161 : decode cX7_comes 161 = .ok (.iaload, 1) := by decide +kernel
theorem dX7_comes_162 : decode cX7_comes 162 = .ok (.iastore, 1) := by decide +kernel
theorem dX7_comes_163 : decode cX7_comes 163 = .ok (.goto 40, 3) := by decide +kernel
theorem dX7_comes_166 : decode cX7_comes 166 = .ok (.aload_n 0, 1) := by decide +kernel
theorem dX7_comes_167 : decode cX7_comes 167 = .ok (.getfield 9, 3) := by decide +kernel
theorem dX7_comes_170 : decode cX7_comes 170 = .ok (.aload_n 0, 1) := by decide +kernel
theorem dX7_comes_171 : decode cX7_comes 171 = .ok (.getfield 74, 3) := by decide +kernel
theorem dX7_comes_174 : decode cX7_comes 174 = .ok (.iconst 0, 1) := by decide +kernel
theorem dX7_comes_175 : decode cX7_comes 175 = .ok (.iaload, 1) := by decide +kernel
theorem dX7_comes_176 : decode cX7_comes 176 = .ok (.aload_n 0, 1) := by decide +kernel
theorem dX7_comes_177 : decode cX7_comes 177 = .ok (.getfield 74, 3) := by decide +kernel
theorem dX7_comes_180 : decode cX7_comes 180 = .ok (.iconst 1, 1) := by decide +kernel
theorem dX7_comes_181 : decode cX7_comes 181 = .ok (.iaload, 1) := by decide +kernel
theorem dX7_comes_182 : decode cX7_comes 182 = .ok (.iastore, 1) := by decide +kernel
theorem dX7_comes_183 : decode cX7_comes 183 = .ok (.goto 20, 3) := by decide +kernel
theorem dX7_comes_186 : decode cX7_comes 186 = .ok (.aload_n 0, 1) := by decide +kernel
theorem dX7_comes_187 : decode cX7_comes 187 = .ok (.getfield 25, 3) := by decide +kernel
theorem dX7_comes_190 : decode cX7_comes 190 = .ok (.aload_n 0, 1) := by decide +kernel
theorem dX7_comes_191 : decode cX7_comes 191 = .ok (.getfield 74, 3) := by decide +kernel
theorem dX7_comes_194 : decode cX7_comes 194 = .ok (.iconst 0, 1) := by decide +kernel
theorem dX7_comes_195 : decode cX7_comes 195 = .ok (.iaload, 1) := by decide +kernel
theorem dX7_comes_196 : decode cX7_comes 196 = .ok (.aload_n 0, 1) := by decide +kernel
theorem dX7_comes_197 : decode cX7_comes 197 = .ok (.getfield 74, 3) := by decide +kernel
theorem dX7_comes_200 : decode cX7_comes 200 = .ok (.iconst 1, 1) := by decide +kernel
theorem dX7_comes_201 : decode cX7_comes 201 = .ok (.iaload, 1) := by decide +kernel
theorem dX7_comes_202 : decode cX7_comes 202 = .ok (.iastore, 1) := by decide +kernel
theorem dX7_comes_203 : decode cX7_comes 203 = .ok (.return_, 1) := by decide +kernel
theorem dX7_auction_0 : decode cX7_auction 0 = .ok (.aload_n 0, 1) := by decide +kernel
theorem dX7_auction_1 : decode cX7_auction 1 = .ok (.invokevirtual 180, 3) := by decide +kernel
theorem dX7_auction_4 : decode cX7_auction 4 = .ok (.astore_n 1, 1) := by decide +kernel
theorem dX7_auction_5 : decode cX7_auction 5 = .ok (.aload_n 0, 1) := by decide +kernel
theorem dX7_auction_6 : decode cX7_auction 6 = .ok (.getfield 139, 3) := by decide +kernel
theorem dX7_auction_9 : decode cX7_auction 9 = .ok (.istore_n 2, 1) := by decide +kernel
theorem dX7_auction_10 : decode cX7_auction 10 = .ok (.aload_n 0, 1) := by decide +kernel
theorem dX7_auction_11 : decode cX7_auction 11 = .ok (.iconst 0, 1) := by decide +kernel
theorem dX7_auction_12 : decode cX7_auction 12 = .ok (.putfield 142, 3) := by decide +kernel
theorem dX7_auction_15 : decode cX7_auction 15 = .ok (.iconst 0, 1) := by decide +kernel
theorem dX7_auction_16 : decode cX7_auction 16 = .ok (.istore_n 3, 1) := by decide +kernel
theorem dX7_auction_17 : decode cX7_auction 17 = .ok (.iconst 1, 1) := by decide +kernel
theorem dX7_auction_18 : decode cX7_auction 18 = .ok (.istore 4, 2) := by decide +kernel
theorem dX7_auction_20 : decode cX7_auction 20 = .ok (.iload 4, 2) := by decide +kernel
theorem dX7_auction_22 : decode cX7_auction 22 = .ok (.ifCond .eq 57, 3) := by decide +kernel
theorem dX7_auction_25 : decode cX7_auction 25 = .ok (.aload_n 0, 1) := by decide +kernel
theorem dX7_auction_26 : decode cX7_auction 26 = .ok (.invokevirtual 184, 3) := by decide +kernel
theorem dX7_auction_29 : decode cX7_auction 29 = .ok (.ifCond .lt 7, 3) := by decide +kernel
theorem dX7_auction_32 : decode cX7_auction 32 = .ok (.iconst 1, 1) := by decide +kernel
theorem dX7_auction_33 : decode cX7_auction 33 = .ok (.goto 4, 3) := by decide +kernel
theorem dX7_auction_36 : decode cX7_auction 36 = .ok (.iconst 0, 1) := by decide +kernel
theorem dX7_auction_37 : decode cX7_auction 37 = .ok (.istore 4, 2) := by decide +kernel
theorem dX7_auction_39 : decode cX7_auction 39 = .ok (.iload 4, 2) := by decide +kernel
theorem dX7_auction_41 : decode cX7_auction 41 = .ok (.ifCond .ne 17, 3) := by decide +kernel
theorem dX7_auction_44 : decode cX7_auction 44 = .ok (.aload_n 0, 1) := by decide +kernel
theorem dX7_auction_45 : decode cX7_auction 45 = .ok (.sipush (-1000), 3) := by decide +kernel
theorem dX7_auction_48 : decode cX7_auction 48 = .ok (.aload_n 0, 1) := by decide +kernel
theorem dX7_auction_49 : decode cX7_auction 49 = .ok (.getfield 142, 3) := by decide +kernel
theorem dX7_auction_52 : decode cX7_auction 52 = .ok (.isub, 1) := by decide +kernel
theorem dX7_auction_53 : decode cX7_auction 53 = .ok (.aload_n 1, 1) := by decide +kernel
theorem dX7_auction_54 : decode cX7_auction 54 = .ok (.invokevirtual 187, 3) := by decide +kernel
theorem dX7_auction_57 : decode cX7_auction 57 = .ok (.ireturn, 1) := by decide +kernel
theorem dX7_auction_58 : decode cX7_auction 58 = .ok (.iinc 3 1, 3) := by decide +kernel
theorem dX7_auction_61 : decode cX7_auction 61 = .ok (.aload_n 0, 1) := by decide +kernel
theorem dX7_auction_62 : decode cX7_auction 62 = .ok (.getfield 142, 3) := by decide +kernel
theorem dX7_auction_65 : decode cX7_auction 65 = .ok (.iload_n 2, 1) := by decide +kernel
theorem dX7_auction_66 : decode cX7_auction 66 = .ok (.if_icmp .ge 7, 3) := by decide +kernel
theorem dX7_auction_69 : decode cX7_auction 69 = .ok (.iconst 1, 1) := by decide +kernel
theorem dX7_auction_70 : decode cX7_auction 70 = .ok (.goto 4, 3) := by decide +kernel
theorem dX7_auction_73 : decode cX7_auction 73 = .ok (.iconst 0, 1) := by decide +kernel
theorem dX7_auction_74 : decode cX7_auction 74 = .ok (.istore 4, 2) := by decide +kernel
theorem dX7_auction_76 : decode cX7_auction 76 = .ok (.goto (-56), 3) := by decide +kernel
theorem dX7_auction_79 : decode cX7_auction 79 = .ok (.aload_n 0, 1) := by decide +kernel
theorem dX7_auction_80 : decode cX7_auction 80 = .ok (.iconst 0, 1) := by decide +kernel
theorem dX7_auction_81 : decode cX7_auction 81 = .ok (.putfield 142, 3) := by decide +kernel
theorem dX7_auction_84 : decode cX7_auction 84 = .ok (.iconst 0, 1) := by decide +kernel
theorem dX7_auction_85 : decode cX7_auction 85 = .ok (.istore 5, 2) := by decide +kernel
theorem dX7_auction_87 : decode cX7_auction 87 = .ok (.iload 5, 2) := by decide +kernel
theorem dX7_auction_89 : decode cX7_auction 89 = .ok (.iload_n 3, 1) := by decide +kernel
theorem dX7_auction_90 : decode cX7_auction 90 = .ok (.if_icmp .ge 48, 3) := by decide +kernel
theorem dX7_auction_93 : decode cX7_auction 93 = .ok (.aload_n 0, 1) := by decide +kernel
theorem dX7_auction_94 : decode cX7_auction 94 = .ok (.getfield 142, 3) := by decide +kernel
theorem dX7_auction_97 : decode cX7_auction 97 = .ok (.istore 6, 2) := by decide +kernel
theorem dX7_auction_99 : decode cX7_auction 99 = .ok (.aload_n 0, 1) := by decide +kernel
theorem dX7_auction_100 : decode cX7_auction 100 = .ok (.invokevirtual 184, 3) := by decide +kernel
theorem dX7_auction_103 : decode cX7_auction 103 = .ok (.istore 7, 2) := by decide +kernel
theorem dX7_auction_105 : decode cX7_auction 105 = .ok (.aload_n 0, 1) := by decide +kernel
theorem dX7_auction_106 : decode cX7_auction 106 = .ok (.iload 7, 2) := by decide +kernel
theorem dX7_auction_108 : decode cX7_auction 108 = .ok (.invokevirtual 191, 3) := by decide +kernel
theorem dX7_auction_111 : decode cX7_auction 111 = .ok (.ifCond .ne 15, 3) := by decide +kernel
theorem dX7_auction_114 : decode cX7_auction 114 = .ok (.aload_n 0, 1) := by decide +kernel
theorem dX7_auction_115 : decode cX7_auction 115 = .ok (.sipush (-2000), 3) := by decide +kernel
theorem dX7_auction_118 : decode cX7_auction 118 = .ok (.iload 6, 2) := by decide +kernel
theorem dX7_auction_120 : decode cX7_auction 120 = .ok (.isub, 1) := by decide +kernel
theorem dX7_auction_121 : decode cX7_auction 121 = .ok (.aload_n 1, 1) := by decide +kernel
theorem dX7_auction_122 : decode cX7_auction 122 = .ok (.invokevirtual 187, 3) := by decide +kernel
theorem dX7_auction_125 : decode cX7_auction 125 = .ok (.ireturn, 1) := by decide +kernel
theorem dX7_auction_126 : decode cX7_auction 126 = .ok (.aload_n 0, 1) := by decide +kernel
theorem dX7_auction_127 : decode cX7_auction 127 = .ok (.iload 7, 2) := by decide +kernel
theorem dX7_auction_129 : decode cX7_auction 129 = .ok (.invokevirtual 194, 3) := by decide +kernel
theorem dX7_auction_132 : decode cX7_auction 132 = .ok (.iinc 5 1, 3) := by decide +kernel
theorem dX7_auction_135 : decode cX7_auction 135 = .ok (.goto (-48), 3) := by decide +kernel
theorem dX7_auction_138 : decode cX7_auction 138 = .ok (.aload_n 0, 1) := by decide +kernel
theorem dX7_auction_139 : decode cX7_auction 139 = .ok (.iconst 0, 1) := by decide +kernel
theorem dX7_auction_140 : decode cX7_auction 140 = .ok (.putfield 139, 3) := by decide +kernel
theorem dX7_auction_143 : decode cX7_auction 143 = .ok (.iload_n 3, 1) := by decide +kernel
theorem dX7_auction_144 : decode cX7_auction 144 = .ok (.ireturn, 1) := by decide +kernel
theorem dX7_faults_0 : decode cX7_faults 0 = .ok (.aload_n 0, 1) := by decide +kernel
theorem dX7_faults_1 : decode cX7_faults 1 = .ok (.iconst 0, 1) := by decide +kernel
theorem dX7_faults_2 : decode cX7_faults 2 = .ok (.putfield 139, 3) := by decide +kernel
theorem dX7_faults_5 : decode cX7_faults 5 = .ok (.aload_n 0, 1) := by decide +kernel
theorem dX7_faults_6 : decode cX7_faults 6 = .ok (.aload_n 2, 1) := by decide +kernel
theorem dX7_faults_7 : decode cX7_faults 7 = .ok (.invokevirtual 198, 3) := by decide +kernel
theorem dX7_faults_10 : decode cX7_faults 10 = .ok (.iload_n 1, 1) := by decide +kernel
theorem dX7_faults_11 : decode cX7_faults 11 = .ok (.ireturn, 1) := by decide +kernel
theorem dX7_rowNow_0 : decode cX7_rowNow 0 = .ok (.bipush 48, 2) := by decide +kernel
theorem dX7_rowNow_2 : decode cX7_rowNow 2 = .ok (.newarray .int, 2) := by decide +kernel
theorem dX7_rowNow_4 : decode cX7_rowNow 4 = .ok (.astore_n 1, 1) := by decide +kernel
theorem dX7_rowNow_5 : decode cX7_rowNow 5 = .ok (.iconst 0, 1) := by decide +kernel
theorem dX7_rowNow_6 : decode cX7_rowNow 6 = .ok (.istore_n 2, 1) := by decide +kernel
theorem dX7_rowNow_7 : decode cX7_rowNow 7 = .ok (.iconst 0, 1) := by decide +kernel
theorem dX7_rowNow_8 : decode cX7_rowNow 8 = .ok (.istore_n 3, 1) := by decide +kernel
theorem dX7_rowNow_9 : decode cX7_rowNow 9 = .ok (.iload_n 3, 1) := by decide +kernel
theorem dX7_rowNow_10 : decode cX7_rowNow 10 = .ok (.bipush 6, 2) := by decide +kernel
theorem dX7_rowNow_12 : decode cX7_rowNow 12 = .ok (.if_icmp .ge 21, 3) := by decide +kernel
theorem dX7_rowNow_15 : decode cX7_rowNow 15 = .ok (.aload_n 1, 1) := by decide +kernel
theorem dX7_rowNow_16 : decode cX7_rowNow 16 = .ok (.iload_n 2, 1) := by decide +kernel
theorem dX7_rowNow_17 : decode cX7_rowNow 17 = .ok (.iinc 2 1, 3) := by decide +kernel
theorem dX7_rowNow_20 : decode cX7_rowNow 20 = .ok (.aload_n 0, 1) := by decide +kernel
theorem dX7_rowNow_21 : decode cX7_rowNow 21 = .ok (.getfield 9, 3) := by decide +kernel
theorem dX7_rowNow_24 : decode cX7_rowNow 24 = .ok (.iload_n 3, 1) := by decide +kernel
theorem dX7_rowNow_25 : decode cX7_rowNow 25 = .ok (.iaload, 1) := by decide +kernel
theorem dX7_rowNow_26 : decode cX7_rowNow 26 = .ok (.iastore, 1) := by decide +kernel
theorem dX7_rowNow_27 : decode cX7_rowNow 27 = .ok (.iinc 3 1, 3) := by decide +kernel
theorem dX7_rowNow_30 : decode cX7_rowNow 30 = .ok (.goto (-21), 3) := by decide +kernel
theorem dX7_rowNow_33 : decode cX7_rowNow 33 = .ok (.iconst 0, 1) := by decide +kernel
theorem dX7_rowNow_34 : decode cX7_rowNow 34 = .ok (.istore_n 3, 1) := by decide +kernel
theorem dX7_rowNow_35 : decode cX7_rowNow 35 = .ok (.iload_n 3, 1) := by decide +kernel
theorem dX7_rowNow_36 : decode cX7_rowNow 36 = .ok (.iconst 5, 1) := by decide +kernel
theorem dX7_rowNow_37 : decode cX7_rowNow 37 = .ok (.if_icmp .ge 33, 3) := by decide +kernel
theorem dX7_rowNow_40 : decode cX7_rowNow 40 = .ok (.aload_n 1, 1) := by decide +kernel
theorem dX7_rowNow_41 : decode cX7_rowNow 41 = .ok (.iload_n 2, 1) := by decide +kernel
theorem dX7_rowNow_42 : decode cX7_rowNow 42 = .ok (.iinc 2 1, 3) := by decide +kernel
theorem dX7_rowNow_45 : decode cX7_rowNow 45 = .ok (.aload_n 0, 1) := by decide +kernel
theorem dX7_rowNow_46 : decode cX7_rowNow 46 = .ok (.getfield 13, 3) := by decide +kernel
theorem dX7_rowNow_49 : decode cX7_rowNow 49 = .ok (.iload_n 3, 1) := by decide +kernel
theorem dX7_rowNow_50 : decode cX7_rowNow 50 = .ok (.iaload, 1) := by decide +kernel
theorem dX7_rowNow_51 : decode cX7_rowNow 51 = .ok (.iastore, 1) := by decide +kernel
theorem dX7_rowNow_52 : decode cX7_rowNow 52 = .ok (.aload_n 1, 1) := by decide +kernel
theorem dX7_rowNow_53 : decode cX7_rowNow 53 = .ok (.iload_n 2, 1) := by decide +kernel
theorem dX7_rowNow_54 : decode cX7_rowNow 54 = .ok (.iinc 2 1, 3) := by decide +kernel
theorem dX7_rowNow_57 : decode cX7_rowNow 57 = .ok (.aload_n 0, 1) := by decide +kernel
theorem dX7_rowNow_58 : decode cX7_rowNow 58 = .ok (.getfield 16, 3) := by decide +kernel
theorem dX7_rowNow_61 : decode cX7_rowNow 61 = .ok (.iload_n 3, 1) := by decide +kernel
theorem dX7_rowNow_62 : decode cX7_rowNow 62 = .ok (.iaload, 1) := by decide +kernel
theorem dX7_rowNow_63 : decode cX7_rowNow 63 = .ok (.iastore, 1) := by decide +kernel
theorem dX7_rowNow_64 : decode cX7_rowNow 64 = .ok (.iinc 3 1, 3) := by decide +kernel
theorem dX7_rowNow_67 : decode cX7_rowNow 67 = .ok (.goto (-32), 3) := by decide +kernel
theorem dX7_rowNow_70 : decode cX7_rowNow 70 = .ok (.iconst 0, 1) := by decide +kernel
theorem dX7_rowNow_71 : decode cX7_rowNow 71 = .ok (.istore_n 3, 1) := by decide +kernel
theorem dX7_rowNow_72 : decode cX7_rowNow 72 = .ok (.iload_n 3, 1) := by decide +kernel
theorem dX7_rowNow_73 : decode cX7_rowNow 73 = .ok (.bipush 10, 2) := by decide +kernel
theorem dX7_rowNow_75 : decode cX7_rowNow 75 = .ok (.if_icmp .ge 45, 3) := by decide +kernel
theorem dX7_rowNow_78 : decode cX7_rowNow 78 = .ok (.aload_n 1, 1) := by decide +kernel
theorem dX7_rowNow_79 : decode cX7_rowNow 79 = .ok (.iload_n 2, 1) := by decide +kernel
theorem dX7_rowNow_80 : decode cX7_rowNow 80 = .ok (.iinc 2 1, 3) := by decide +kernel
theorem dX7_rowNow_83 : decode cX7_rowNow 83 = .ok (.aload_n 0, 1) := by decide +kernel
theorem dX7_rowNow_84 : decode cX7_rowNow 84 = .ok (.getfield 19, 3) := by decide +kernel
theorem dX7_rowNow_87 : decode cX7_rowNow 87 = .ok (.iload_n 3, 1) := by decide +kernel
theorem dX7_rowNow_88 : decode cX7_rowNow 88 = .ok (.iaload, 1) := by decide +kernel
theorem dX7_rowNow_89 : decode cX7_rowNow 89 = .ok (.iastore, 1) := by decide +kernel
theorem dX7_rowNow_90 : decode cX7_rowNow 90 = .ok (.aload_n 1, 1) := by decide +kernel
theorem dX7_rowNow_91 : decode cX7_rowNow 91 = .ok (.iload_n 2, 1) := by decide +kernel
theorem dX7_rowNow_92 : decode cX7_rowNow 92 = .ok (.iinc 2 1, 3) := by decide +kernel
theorem dX7_rowNow_95 : decode cX7_rowNow 95 = .ok (.aload_n 0, 1) := by decide +kernel
theorem dX7_rowNow_96 : decode cX7_rowNow 96 = .ok (.getfield 22, 3) := by decide +kernel
theorem dX7_rowNow_99 : decode cX7_rowNow 99 = .ok (.iload_n 3, 1) := by decide +kernel
theorem dX7_rowNow_100 : decode cX7_rowNow 100 = .ok (.iaload, 1) := by decide +kernel
theorem dX7_rowNow_101 : decode cX7_rowNow 101 = .ok (.iastore, 1) := by decide +kernel
theorem dX7_rowNow_102 : decode cX7_rowNow 102 = .ok (.aload_n 1, 1) := by decide +kernel
theorem dX7_rowNow_103 : decode cX7_rowNow 103 = .ok (.iload_n 2, 1) := by decide +kernel
theorem dX7_rowNow_104 : decode cX7_rowNow 104 = .ok (.iinc 2 1, 3) := by decide +kernel
theorem dX7_rowNow_107 : decode cX7_rowNow 107 = .ok (.aload_n 0, 1) := by decide +kernel
theorem dX7_rowNow_108 : decode cX7_rowNow 108 = .ok (.getfield 25, 3) := by decide +kernel
theorem dX7_rowNow_111 : decode cX7_rowNow 111 = .ok (.iload_n 3, 1) := by decide +kernel
theorem dX7_rowNow_112 : decode cX7_rowNow 112 = .ok (.iaload, 1) := by decide +kernel
theorem dX7_rowNow_113 : decode cX7_rowNow 113 = .ok (.iastore, 1) := by decide +kernel
theorem dX7_rowNow_114 : decode cX7_rowNow 114 = .ok (.iinc 3 1, 3) := by decide +kernel
theorem dX7_rowNow_117 : decode cX7_rowNow 117 = .ok (.goto (-45), 3) := by decide +kernel
theorem dX7_rowNow_120 : decode cX7_rowNow 120 = .ok (.aload_n 1, 1) := by decide +kernel
theorem dX7_rowNow_121 : decode cX7_rowNow 121 = .ok (.iload_n 2, 1) := by decide +kernel
theorem dX7_rowNow_122 : decode cX7_rowNow 122 = .ok (.aload_n 0, 1) := by decide +kernel
theorem dX7_rowNow_123 : decode cX7_rowNow 123 = .ok (.getfield 93, 3) := by decide +kernel
theorem dX7_rowNow_126 : decode cX7_rowNow 126 = .ok (.iastore, 1) := by decide +kernel
theorem dX7_rowNow_127 : decode cX7_rowNow 127 = .ok (.aload_n 1, 1) := by decide +kernel
theorem dX7_rowNow_128 : decode cX7_rowNow 128 = .ok (.iload_n 2, 1) := by decide +kernel
theorem dX7_rowNow_129 : decode cX7_rowNow 129 = .ok (.iconst 1, 1) := by decide +kernel
theorem dX7_rowNow_130 : decode cX7_rowNow 130 = .ok (.iadd, 1) := by decide +kernel
theorem dX7_rowNow_131 : decode cX7_rowNow 131 = .ok (.aload_n 0, 1) := by decide +kernel
theorem dX7_rowNow_132 : decode cX7_rowNow 132 = .ok (.getfield 127, 3) := by decide +kernel
theorem dX7_rowNow_135 : decode cX7_rowNow 135 = .ok (.iastore, 1) := by decide +kernel
theorem dX7_rowNow_136 : decode cX7_rowNow 136 = .ok (.aload_n 1, 1) := by decide +kernel
theorem dX7_rowNow_137 : decode cX7_rowNow 137 = .ok (.areturn, 1) := by decide +kernel
theorem dX7_layBack_0 : decode cX7_layBack 0 = .ok (.iconst 0, 1) := by decide +kernel
theorem dX7_layBack_1 : decode cX7_layBack 1 = .ok (.istore_n 2, 1) := by decide +kernel
theorem dX7_layBack_2 : decode cX7_layBack 2 = .ok (.iconst 0, 1) := by decide +kernel
theorem dX7_layBack_3 : decode cX7_layBack 3 = .ok (.istore_n 3, 1) := by decide +kernel
theorem dX7_layBack_4 : decode cX7_layBack 4 = .ok (.iload_n 3, 1) := by decide +kernel
theorem dX7_layBack_5 : decode cX7_layBack 5 = .ok (.bipush 6, 2) := by decide +kernel
theorem dX7_layBack_7 : decode cX7_layBack 7 = .ok (.if_icmp .ge 21, 3) := by decide +kernel
theorem dX7_layBack_10 : decode cX7_layBack 10 = .ok (.aload_n 0, 1) := by decide +kernel
theorem dX7_layBack_11 : decode cX7_layBack 11 = .ok (.getfield 9, 3) := by decide +kernel
theorem dX7_layBack_14 : decode cX7_layBack 14 = .ok (.iload_n 3, 1) := by decide +kernel
theorem dX7_layBack_15 : decode cX7_layBack 15 = .ok (.aload_n 1, 1) := by decide +kernel
theorem dX7_layBack_16 : decode cX7_layBack 16 = .ok (.iload_n 2, 1) := by decide +kernel
theorem dX7_layBack_17 : decode cX7_layBack 17 = .ok (.iinc 2 1, 3) := by decide +kernel
theorem dX7_layBack_20 : decode cX7_layBack 20 = .ok (.iaload, 1) := by decide +kernel
theorem dX7_layBack_21 : decode cX7_layBack 21 = .ok (.iastore, 1) := by decide +kernel
theorem dX7_layBack_22 : decode cX7_layBack 22 = .ok (.iinc 3 1, 3) := by decide +kernel
theorem dX7_layBack_25 : decode cX7_layBack 25 = .ok (.goto (-21), 3) := by decide +kernel
theorem dX7_layBack_28 : decode cX7_layBack 28 = .ok (.iconst 0, 1) := by decide +kernel
theorem dX7_layBack_29 : decode cX7_layBack 29 = .ok (.istore_n 3, 1) := by decide +kernel
theorem dX7_layBack_30 : decode cX7_layBack 30 = .ok (.iload_n 3, 1) := by decide +kernel
