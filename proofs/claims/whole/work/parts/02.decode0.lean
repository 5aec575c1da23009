theorem dX0_init_0 : decode cX0_init 0 = .ok (.aload_n 0, 1) := by decide +kernel
theorem dX0_init_1 : decode cX0_init 1 = .ok (.invokespecial 3, 3) := by decide +kernel
theorem dX0_init_4 : decode cX0_init 4 = .ok (.aload_n 0, 1) := by decide +kernel
theorem dX0_init_5 : decode cX0_init 5 = .ok (.iconst 5, 1) := by decide +kernel
theorem dX0_init_6 : decode cX0_init 6 = .ok (.newarray .int, 2) := by decide +kernel
theorem dX0_init_8 : decode cX0_init 8 = .ok (.putfield 9, 3) := by decide +kernel
theorem dX0_init_11 : decode cX0_init 11 = .ok (.aload_n 0, 1) := by decide +kernel
theorem dX0_init_12 : decode cX0_init 12 = .ok (.iconst 5, 1) := by decide +kernel
theorem dX0_init_13 : decode cX0_init 13 = .ok (.newarray .int, 2) := by decide +kernel
theorem dX0_init_15 : decode cX0_init 15 = .ok (.putfield 15, 3) := by decide +kernel
theorem dX0_init_18 : decode cX0_init 18 = .ok (.aload_n 0, 1) := by decide +kernel
theorem dX0_init_19 : decode cX0_init 19 = .ok (.iconst 5, 1) := by decide +kernel
theorem dX0_init_20 : decode cX0_init 20 = .ok (.newarray .int, 2) := by decide +kernel
theorem dX0_init_22 : decode cX0_init 22 = .ok (.putfield 18, 3) := by decide +kernel
theorem dX0_init_25 : decode cX0_init 25 = .ok (.aload_n 0, 1) := by decide +kernel
theorem dX0_init_26 : decode cX0_init 26 = .ok (.bipush 32, 2) := by decide +kernel
theorem dX0_init_28 : decode cX0_init 28 = .ok (.newarray .int, 2) := by decide +kernel
theorem dX0_init_30 : decode cX0_init 30 = .ok (.putfield 21, 3) := by decide +kernel
theorem dX0_init_33 : decode cX0_init 33 = .ok (.aload_n 0, 1) := by decide +kernel
theorem dX0_init_34 : decode cX0_init 34 = .ok (.iconst 0, 1) := by decide +kernel
theorem dX0_init_35 : decode cX0_init 35 = .ok (.putfield 24, 3) := by decide +kernel
theorem dX0_init_38 : decode cX0_init 38 = .ok (.aload_n 0, 1) := by decide +kernel
theorem dX0_init_39 : decode cX0_init 39 = .ok (.iconst 0, 1) := by decide +kernel
theorem dX0_init_40 : decode cX0_init 40 = .ok (.putfield 28, 3) := by decide +kernel
theorem dX0_init_43 : decode cX0_init 43 = .ok (.aload_n 0, 1) := by decide +kernel
theorem dX0_init_44 : decode cX0_init 44 = .ok (.iconst 0, 1) := by decide +kernel
theorem dX0_init_45 : decode cX0_init 45 = .ok (.putfield 31, 3) := by decide +kernel
theorem dX0_init_48 : decode cX0_init 48 = .ok (.aload_n 0, 1) := by decide +kernel
theorem dX0_init_49 : decode cX0_init 49 = .ok (.iconst 0, 1) := by decide +kernel
theorem dX0_init_50 : decode cX0_init 50 = .ok (.putfield 34, 3) := by decide +kernel
theorem dX0_init_53 : decode cX0_init 53 = .ok (.return_, 1) := by decide +kernel
theorem dX0_charge_0 : decode cX0_charge 0 = .ok (.aload_n 2, 1) := by decide +kernel
theorem dX0_charge_1 : decode cX0_charge 1 = .ok (.sipush 1023, 3) := by decide +kernel
theorem dX0_charge_4 : decode cX0_charge 4 = .ok (.invokevirtual 37, 3) := by decide +kernel
theorem dX0_charge_7 : decode cX0_charge 7 = .ok (.istore_n 3, 1) := by decide +kernel
theorem dX0_charge_8 : decode cX0_charge 8 = .ok (.aload_n 0, 1) := by decide +kernel
theorem dX0_charge_9 : decode cX0_charge 9 = .ok (.iload_n 3, 1) := by decide +kernel
theorem dX0_charge_10 : decode cX0_charge 10 = .ok (.invokestatic 43, 3) := by decide +kernel
theorem dX0_charge_13 : decode cX0_charge 13 = .ok (.putfield 24, 3) := by decide +kernel
theorem dX0_charge_16 : decode cX0_charge 16 = .ok (.aload_n 0, 1) := by decide +kernel
theorem dX0_charge_17 : decode cX0_charge 17 = .ok (.iload_n 3, 1) := by decide +kernel
theorem dX0_charge_18 : decode cX0_charge 18 = .ok (.invokestatic 46, 3) := by decide +kernel
theorem dX0_charge_21 : decode cX0_charge 21 = .ok (.putfield 28, 3) := by decide +kernel
theorem dX0_charge_24 : decode cX0_charge 24 = .ok (.iconst 0, 1) := by decide +kernel
theorem dX0_charge_25 : decode cX0_charge 25 = .ok (.istore 4, 2) := by decide +kernel
theorem dX0_charge_27 : decode cX0_charge 27 = .ok (.iload 4, 2) := by decide +kernel
theorem dX0_charge_29 : decode cX0_charge 29 = .ok (.iconst 5, 1) := by decide +kernel
theorem dX0_charge_30 : decode cX0_charge 30 = .ok (.if_icmp .ge 33, 3) := by decide +kernel
theorem dX0_charge_33 : decode cX0_charge 33 = .ok (.aload_n 0, 1) := by decide +kernel
theorem dX0_charge_34 : decode cX0_charge 34 = .ok (.getfield 9, 3) := by decide +kernel
theorem dX0_charge_37 : decode cX0_charge 37 = .ok (.iload 4, 2) := by decide +kernel
theorem dX0_charge_39 : decode cX0_charge 39 = .ok (.aload_n 1, 1) := by decide +kernel
theorem dX0_charge_40 : decode cX0_charge 40 = .ok (.aload_n 0, 1) := by decide +kernel
theorem dX0_charge_41 : decode cX0_charge 41 = .ok (.getfield 24, 3) := by decide +kernel
theorem dX0_charge_44 : decode cX0_charge 44 = .ok (.aload_n 1, 1) := by decide +kernel
theorem dX0_charge_45 : decode cX0_charge 45 = .ok (.iconst 1, 1) := by decide +kernel
theorem dX0_charge_46 : decode cX0_charge 46 = .ok (.iload 4, 2) := by decide +kernel
theorem dX0_charge_48 : decode cX0_charge 48 = .ok (.ishl, 1) := by decide +kernel
theorem dX0_charge_49 : decode cX0_charge 49 = .ok (.invokevirtual 49, 3) := by decide +kernel
theorem dX0_charge_52 : decode cX0_charge 52 = .ok (.iand, 1) := by decide +kernel
theorem dX0_charge_53 : decode cX0_charge 53 = .ok (.invokevirtual 54, 3) := by decide +kernel
theorem dX0_charge_56 : decode cX0_charge 56 = .ok (.iastore, 1) := by decide +kernel
theorem dX0_charge_57 : decode cX0_charge 57 = .ok (.iinc 4 1, 3) := by decide +kernel
theorem dX0_charge_60 : decode cX0_charge 60 = .ok (.goto (-33), 3) := by decide +kernel
theorem dX0_charge_63 : decode cX0_charge 63 = .ok (.iconst 0, 1) := by decide +kernel
theorem dX0_charge_64 : decode cX0_charge 64 = .ok (.istore 4, 2) := by decide +kernel
theorem dX0_charge_66 : decode cX0_charge 66 = .ok (.iload 4, 2) := by decide +kernel
theorem dX0_charge_68 : decode cX0_charge 68 = .ok (.iconst 5, 1) := by decide +kernel
theorem dX0_charge_69 : decode cX0_charge 69 = .ok (.if_icmp .ge 40, 3) := by decide +kernel
theorem dX0_charge_72 : decode cX0_charge 72 = .ok (.aload_n 0, 1) := by decide +kernel
theorem dX0_charge_73 : decode cX0_charge 73 = .ok (.getfield 15, 3) := by decide +kernel
theorem dX0_charge_76 : decode cX0_charge 76 = .ok (.iload 4, 2) := by decide +kernel
theorem dX0_charge_78 : decode cX0_charge 78 = .ok (.aload_n 0, 1) := by decide +kernel
theorem dX0_charge_79 : decode cX0_charge 79 = .ok (.getfield 9, 3) := by decide +kernel
theorem dX0_charge_82 : decode cX0_charge 82 = .ok (.iload 4, 2) := by decide +kernel
theorem dX0_charge_84 : decode cX0_charge 84 = .ok (.iaload, 1) := by decide +kernel
theorem dX0_charge_85 : decode cX0_charge 85 = .ok (.ifCond .ne 7, 3) := by decide +kernel
theorem dX0_charge_88 : decode cX0_charge 88 = .ok (.iconst 0, 1) := by decide +kernel
theorem dX0_charge_89 : decode cX0_charge 89 = .ok (.goto 13, 3) := by decide +kernel
theorem dX0_charge_92 : decode cX0_charge 92 = .ok (.aload_n 0, 1) := by decide +kernel
theorem dX0_charge_93 : decode cX0_charge 93 = .ok (.aload_n 1, 1) := by decide +kernel
theorem dX0_charge_94 : decode cX0_charge 94 = .ok (.aload_n 2, 1) := by decide +kernel
theorem dX0_charge_95 : decode cX0_charge 95 = .ok (.iconst 1, 1) := by decide +kernel
theorem dX0_charge_96 : decode cX0_charge 96 = .ok (.iload 4, 2) := by decide +kernel
theorem dX0_charge_98 : decode cX0_charge 98 = .ok (.ishl, 1) := by decide +kernel
theorem dX0_charge_99 : decode cX0_charge 99 = .ok (.invokevirtual 57, 3) := by decide +kernel
theorem dX0_charge_102 : decode cX0_charge 102 = .ok (.iastore, 1) := by decide +kernel
theorem dX0_charge_103 : decode cX0_charge 103 = .ok (.iinc 4 1, 3) := by decide +kernel
theorem dX0_charge_106 : decode cX0_charge 106 = .ok (.goto (-40), 3) := by decide +kernel
theorem dX0_charge_109 : decode cX0_charge 109 = .ok (.return_, 1) := by decide +kernel
theorem dX0_harmBy_0 : decode cX0_harmBy 0 = .ok (.sipush 1023, 3) := by decide +kernel
theorem dX0_harmBy_3 : decode cX0_harmBy 3 = .ok (.aload_n 1, 1) := by decide +kernel
theorem dX0_harmBy_4 : decode cX0_harmBy 4 = .ok (.iload_n 3, 1) := by decide +kernel
theorem dX0_harmBy_5 : decode cX0_harmBy 5 = .ok (.invokevirtual 49, 3) := by decide +kernel
theorem dX0_harmBy_8 : decode cX0_harmBy 8 = .ok (.iconst (-1), 1) := by decide +kernel
theorem dX0_harmBy_9 : decode cX0_harmBy 9 = .ok (.ixor, 1) := by decide +kernel
theorem dX0_harmBy_10 : decode cX0_harmBy 10 = .ok (.iand, 1) := by decide +kernel
theorem dX0_harmBy_11 : decode cX0_harmBy 11 = .ok (.istore 4, 2) := by decide +kernel
theorem dX0_harmBy_13 : decode cX0_harmBy 13 = .ok (.aload_n 2, 1) := by decide +kernel
theorem dX0_harmBy_14 : decode cX0_harmBy 14 = .ok (.iload 4, 2) := by decide +kernel
theorem dX0_harmBy_16 : decode cX0_harmBy 16 = .ok (.invokevirtual 37, 3) := by decide +kernel
theorem dX0_harmBy_19 : decode cX0_harmBy 19 = .ok (.invokestatic 46, 3) := by decide +kernel
theorem dX0_harmBy_22 : decode cX0_harmBy 22 = .ok (.aload_n 0, 1) := by decide +kernel
theorem dX0_harmBy_23 : decode cX0_harmBy 23 = .ok (.getfield 28, 3) := by decide +kernel
theorem dX0_harmBy_26 : decode cX0_harmBy 26 = .ok (.aload_n 0, 1) := by decide +kernel
theorem dX0_harmBy_27 : decode cX0_harmBy 27 = .ok (.getfield 9, 3) := by decide +kernel
theorem dX0_harmBy_30 : decode cX0_harmBy 30 = .ok (.iload_n 3, 1) := by decide +kernel
theorem dX0_harmBy_31 : decode cX0_harmBy 31 = .ok (.invokestatic 61, 3) := by decide +kernel
theorem dX0_harmBy_34 : decode cX0_harmBy 34 = .ok (.isub, 1) := by decide +kernel
theorem dX0_harmBy_35 : decode cX0_harmBy 35 = .ok (.isub, 1) := by decide +kernel
theorem dX0_harmBy_36 : decode cX0_harmBy 36 = .ok (.ireturn, 1) := by decide +kernel
theorem dX0_happy_0 : decode cX0_happy 0 = .ok (.iconst 0, 1) := by decide +kernel
theorem dX0_happy_1 : decode cX0_happy 1 = .ok (.istore_n 1, 1) := by decide +kernel
theorem dX0_happy_2 : decode cX0_happy 2 = .ok (.iconst 0, 1) := by decide +kernel
theorem dX0_happy_3 : decode cX0_happy 3 = .ok (.istore_n 2, 1) := by decide +kernel
theorem dX0_happy_4 : decode cX0_happy 4 = .ok (.iload_n 2, 1) := by decide +kernel
theorem dX0_happy_5 : decode cX0_happy 5 = .ok (.iconst 5, 1) := by decide +kernel
theorem dX0_happy_6 : decode cX0_happy 6 = .ok (.if_icmp .ge 24, 3) := by decide +kernel
theorem dX0_happy_9 : decode cX0_happy 9 = .ok (.aload_n 0, 1) := by decide +kernel
theorem dX0_happy_10 : decode cX0_happy 10 = .ok (.getfield 9, 3) := by decide +kernel
theorem dX0_happy_13 : decode cX0_happy 13 = .ok (.iload_n 2, 1) := by decide +kernel
theorem dX0_happy_14 : decode cX0_happy 14 = .ok (.iaload, 1) := by decide +kernel
theorem dX0_happy_15 : decode cX0_happy 15 = .ok (.ifCond .le 9, 3) := by decide +kernel
theorem dX0_happy_18 : decode cX0_happy 18 = .ok (.iload_n 1, 1) := by decide +kernel
theorem dX0_happy_19 : decode cX0_happy 19 = .ok (.iconst 1, 1) := by decide +kernel
theorem dX0_happy_20 : decode cX0_happy 20 = .ok (.iload_n 2, 1) := by decide +kernel
theorem dX0_happy_21 : decode cX0_happy 21 = .ok (.ishl, 1) := by decide +kernel
theorem dX0_happy_22 : decode cX0_happy 22 = .ok (.ior, 1) := by decide +kernel
theorem dX0_happy_23 : decode cX0_happy 23 = .ok (.istore_n 1, 1) := by decide +kernel
theorem dX0_happy_24 : decode cX0_happy 24 = .ok (.iinc 2 1, 3) := by decide +kernel
theorem dX0_happy_27 : decode cX0_happy 27 = .ok (.goto (-23), 3) := by decide +kernel
theorem dX0_happy_30 : decode cX0_happy 30 = .ok (.iload_n 1, 1) := by decide +kernel
theorem dX0_happy_31 : decode cX0_happy 31 = .ok (.ireturn, 1) := by decide +kernel
theorem dX0_payments_0 : decode cX0_payments 0 = .ok (.iload_n 1, 1) := by decide +kernel
theorem dX0_payments_1 : decode cX0_payments 1 = .ok (.lookupswitch 37 #[(0, 27), (1, 32)], 27) := by decide +kernel
theorem dX0_payments_28 : decode cX0_payments 28 = .ok (.aload_n 0, 1) := by decide +kernel
theorem dX0_payments_29 : decode cX0_payments 29 = .ok (.getfield 9, 3) := by decide +kernel
theorem dX0_payments_32 : decode cX0_payments 32 = .ok (.areturn, 1) := by decide +kernel
theorem dX0_payments_33 : decode cX0_payments 33 = .ok (.aload_n 0, 1) := by decide +kernel
theorem dX0_payments_34 : decode cX0_payments 34 = .ok (.getfield 15, 3) := by decide +kernel
theorem dX0_payments_37 : decode cX0_payments 37 = .ok (.areturn, 1) := by decide +kernel
theorem dX0_payments_38 : decode cX0_payments 38 = .ok (.aload_n 0, 1) := by decide +kernel
theorem dX0_payments_39 : decode cX0_payments 39 = .ok (.getfield 18, 3) := by decide +kernel
theorem dX0_payments_42 : decode cX0_payments 42 = .ok (.areturn, 1) := by decide +kernel
theorem dX0_payment_0 : decode cX0_payment 0 = .ok (.iload_n 2, 1) := by decide +kernel
theorem dX0_payment_1 : decode cX0_payment 1 = .ok (.invokestatic 65, 3) := by decide +kernel
theorem dX0_payment_4 : decode cX0_payment 4 = .ok (.ifCond .eq 13, 3) := by decide +kernel
theorem dX0_payment_7 : decode cX0_payment 7 = .ok (.aload_n 0, 1) := by decide +kernel
theorem dX0_payment_8 : decode cX0_payment 8 = .ok (.iload_n 1, 1) := by decide +kernel
theorem dX0_payment_9 : decode cX0_payment 9 = .ok (.invokevirtual 69, 3) := by decide +kernel
theorem dX0_payment_12 : decode cX0_payment 12 = .ok (.iload_n 2, 1) := by decide +kernel
theorem dX0_payment_13 : decode cX0_payment 13 = .ok (.iaload, 1) := by decide +kernel
theorem dX0_payment_14 : decode cX0_payment 14 = .ok (.goto 4, 3) := by decide +kernel
theorem dX0_payment_17 : decode cX0_payment 17 = .ok (.iconst 0, 1) := by decide +kernel
theorem dX0_payment_18 : decode cX0_payment 18 = .ok (.ireturn, 1) := by decide +kernel
theorem dX0_total_0 : decode cX0_total 0 = .ok (.iconst 0, 1) := by decide +kernel
theorem dX0_total_1 : decode cX0_total 1 = .ok (.istore_n 2, 1) := by decide +kernel
theorem dX0_total_2 : decode cX0_total 2 = .ok (.iconst 0, 1) := by decide +kernel
theorem dX0_total_3 : decode cX0_total 3 = .ok (.istore_n 3, 1) := by decide +kernel
theorem dX0_total_4 : decode cX0_total 4 = .ok (.iload_n 3, 1) := by decide +kernel
theorem dX0_total_5 : decode cX0_total 5 = .ok (.aload_n 0, 1) := by decide +kernel
theorem dX0_total_6 : decode cX0_total 6 = .ok (.arraylength, 1) := by decide +kernel
theorem dX0_total_7 : decode cX0_total 7 = .ok (.if_icmp .ge 21, 3) := by decide +kernel
theorem dX0_total_10 : decode cX0_total 10 = .ok (.iload_n 2, 1) := by decide +kernel
theorem dX0_total_11 : decode cX0_total 11 = .ok (.iload_n 1, 1) := by decide +kernel
theorem dX0_total_12 : decode cX0_total 12 = .ok (.iload_n 3, 1) := by decide +kernel
theorem dX0_total_13 : decode cX0_total 13 = .ok (.invokestatic 73, 3) := by decide +kernel
theorem dX0_total_16 : decode cX0_total 16 = .ok (.aload_n 0, 1) := by decide +kernel
theorem dX0_total_17 : decode cX0_total 17 = .ok (.iload_n 3, 1) := by decide +kernel
theorem dX0_total_18 : decode cX0_total 18 = .ok (.iaload, 1) := by decide +kernel
theorem dX0_total_19 : decode cX0_total 19 = .ok (.imul, 1) := by decide +kernel
theorem dX0_total_20 : decode cX0_total 20 = .ok (.iadd, 1) := by decide +kernel
theorem dX0_total_21 : decode cX0_total 21 = .ok (.istore_n 2, 1) := by decide +kernel
theorem dX0_total_22 : decode cX0_total 22 = .ok (.iinc 3 1, 3) := by decide +kernel
theorem dX0_total_25 : decode cX0_total 25 = .ok (.goto (-21), 3) := by decide +kernel
theorem dX0_total_28 : decode cX0_total 28 = .ok (.iload_n 2, 1) := by decide +kernel
theorem dX0_total_29 : decode cX0_total 29 = .ok (.ireturn, 1) := by decide +kernel
theorem dX0_lift_0 : decode cX0_lift 0 = .ok (.aload_n 0, 1) := by decide +kernel
theorem dX0_lift_1 : decode cX0_lift 1 = .ok (.aload_n 1, 1) := by decide +kernel
theorem dX0_lift_2 : decode cX0_lift 2 = .ok (.aload_n 1, 1) := by decide +kernel
theorem dX0_lift_3 : decode cX0_lift 3 = .ok (.aload_n 0, 1) := by decide +kernel
theorem dX0_lift_4 : decode cX0_lift 4 = .ok (.getfield 24, 3) := by decide +kernel
theorem dX0_lift_7 : decode cX0_lift 7 = .ok (.invokevirtual 77, 3) := by decide +kernel
theorem dX0_lift_10 : decode cX0_lift 10 = .ok (.invokevirtual 80, 3) := by decide +kernel
theorem dX0_lift_13 : decode cX0_lift 13 = .ok (.putfield 31, 3) := by decide +kernel
theorem dX0_lift_16 : decode cX0_lift 16 = .ok (.iconst 0, 1) := by decide +kernel
theorem dX0_lift_17 : decode cX0_lift 17 = .ok (.istore_n 3, 1) := by decide +kernel
theorem dX0_lift_18 : decode cX0_lift 18 = .ok (.iload_n 3, 1) := by decide +kernel
theorem dX0_lift_19 : decode cX0_lift 19 = .ok (.bipush 32, 2) := by decide +kernel
theorem dX0_lift_21 : decode cX0_lift 21 = .ok (.if_icmp .ge 27, 3) := by decide +kernel
theorem dX0_lift_24 : decode cX0_lift 24 = .ok (.aload_n 0, 1) := by decide +kernel
theorem dX0_lift_25 : decode cX0_lift 25 = .ok (.getfield 21, 3) := by decide +kernel
theorem dX0_lift_28 : decode cX0_lift 28 = .ok (.iload_n 3, 1) := by decide +kernel
theorem dX0_lift_29 : decode cX0_lift 29 = .ok (.aload_n 2, 1) := by decide +kernel
theorem dX0_lift_30 : decode cX0_lift 30 = .ok (.aload_n 1, 1) := by decide +kernel
theorem dX0_lift_31 : decode cX0_lift 31 = .ok (.iload_n 3, 1) := by decide +kernel
theorem dX0_lift_32 : decode cX0_lift 32 = .ok (.invokevirtual 49, 3) := by decide +kernel
theorem dX0_lift_35 : decode cX0_lift 35 = .ok (.invokevirtual 37, 3) := by decide +kernel
theorem dX0_lift_38 : decode cX0_lift 38 = .ok (.invokestatic 46, 3) := by decide +kernel
theorem dX0_lift_41 : decode cX0_lift 41 = .ok (.iastore, 1) := by decide +kernel
theorem dX0_lift_42 : decode cX0_lift 42 = .ok (.iinc 3 1, 3) := by decide +kernel
theorem dX0_lift_45 : decode cX0_lift 45 = .ok (.goto (-27), 3) := by decide +kernel
theorem dX0_lift_48 : decode cX0_lift 48 = .ok (.aload_n 0, 1) := by decide +kernel
theorem dX0_lift_49 : decode cX0_lift 49 = .ok (.getfield 15, 3) := by decide +kernel
theorem dX0_lift_52 : decode cX0_lift 52 = .ok (.iconst 0, 1) := by decide +kernel
theorem dX0_lift_53 : decode cX0_lift 53 = .ok (.aload_n 0, 1) := by decide +kernel
theorem dX0_lift_54 : decode cX0_lift 54 = .ok (.getfield 18, 3) := by decide +kernel
theorem dX0_lift_57 : decode cX0_lift 57 = .ok (.iconst 0, 1) := by decide +kernel
theorem dX0_lift_58 : decode cX0_lift 58 = .ok (.iconst 5, 1) := by decide +kernel
theorem dX0_lift_59 : decode cX0_lift 59 = .ok (.invokestatic 83, 3) := by decide +kernel
theorem dX0_lift_62 : decode cX0_lift 62 = .ok (.aload_n 0, 1) := by decide +kernel
theorem dX0_lift_63 : decode cX0_lift 63 = .ok (.iconst 0, 1) := by decide +kernel
theorem dX0_lift_64 : decode cX0_lift 64 = .ok (.putfield 34, 3) := by decide +kernel
theorem dX0_lift_67 : decode cX0_lift 67 = .ok (.aload_n 0, 1) := by decide +kernel
theorem dX0_lift_68 : decode cX0_lift 68 = .ok (.aload_n 0, 1) := by decide +kernel
theorem dX0_lift_69 : decode cX0_lift 69 = .ok (.getfield 18, 3) := by decide +kernel
theorem dX0_lift_72 : decode cX0_lift 72 = .ok (.invokevirtual 89, 3) := by decide +kernel
theorem dX0_lift_75 : decode cX0_lift 75 = .ok (.istore_n 3, 1) := by decide +kernel
theorem dX0_lift_76 : decode cX0_lift 76 = .ok (.iload_n 3, 1) := by decide +kernel
theorem dX0_lift_77 : decode cX0_lift 77 = .ok (.bipush (-9), 2) := by decide +kernel
theorem dX0_lift_79 : decode cX0_lift 79 = .ok (.if_icmp .eq 48, 3) := by decide +kernel
theorem dX0_lift_82 : decode cX0_lift 82 = .ok (.aload_n 0, 1) := by decide +kernel
theorem dX0_lift_83 : decode cX0_lift 83 = .ok (.getfield 34, 3) := by decide +kernel
theorem dX0_lift_86 : decode cX0_lift 86 = .ok (.ldc 93, 2) := by decide +kernel
theorem dX0_lift_88 : decode cX0_lift 88 = .ok (.if_icmp .ge 39, 3) := by decide +kernel
theorem dX0_lift_91 : decode cX0_lift 91 = .ok (.aload_n 0, 1) := by decide +kernel
theorem dX0_lift_92 : decode cX0_lift 92 = .ok (.iload_n 3, 1) := by decide +kernel
theorem dX0_lift_93 : decode cX0_lift 93 = .ok (.aload_n 0, 1) := by decide +kernel
theorem dX0_lift_94 : decode cX0_lift 94 = .ok (.aload_n 0, 1) := by decide +kernel
theorem dX0_lift_95 : decode cX0_lift 95 = .ok (.getfield 18, 3) := by decide +kernel
theorem dX0_lift_98 : decode cX0_lift 98 = .ok (.iload_n 3, 1) := by decide +kernel
theorem dX0_lift_99 : decode cX0_lift 99 = .ok (.invokevirtual 94, 3) := by decide +kernel
theorem dX0_lift_102 : decode cX0_lift 102 = .ok (.invokevirtual 97, 3) := by decide +kernel
theorem dX0_lift_105 : decode cX0_lift 105 = .ok (.aload_n 0, 1) := by decide +kernel
theorem dX0_lift_106 : decode cX0_lift 106 = .ok (.dup, 1) := by decide +kernel
theorem dX0_lift_107 : decode cX0_lift 107 = .ok (.getfield 34, 3) := by decide +kernel
theorem dX0_lift_110 : decode cX0_lift 110 = .ok (.iconst 1, 1) := by decide +kernel
theorem dX0_lift_111 : decode cX0_lift 111 = .ok (.iadd, 1) := by decide +kernel
theorem dX0_lift_112 : decode cX0_lift 112 = .ok (.putfield 34, 3) := by decide +kernel
theorem dX0_lift_115 : decode cX0_lift 115 = .ok (.aload_n 0, 1) := by decide +kernel
theorem dX0_lift_116 : decode cX0_lift 116 = .ok (.aload_n 0, 1) := by decide +kernel
theorem dX0_lift_117 : decode cX0_lift 117 = .ok (.getfield 18, 3) := by decide +kernel
theorem dX0_lift_120 : decode cX0_lift 120 = .ok (.invokevirtual 89, 3) := by decide +kernel
theorem dX0_lift_123 : decode cX0_lift 123 = .ok (.istore_n 3, 1) := by decide +kernel
theorem dX0_lift_124 : decode cX0_lift 124 = .ok (.goto (-48), 3) := by decide +kernel
theorem dX0_lift_127 : decode cX0_lift 127 = .ok (.return_, 1) := by decide +kernel
theorem dX0_putOnOthers_0 : decode cX0_putOnOthers 0 = .ok (.iload_n 2, 1) := by decide +kernel
theorem dX0_putOnOthers_1 : decode cX0_putOnOthers 1 = .ok (.istore_n 3, 1) := by decide +kernel
theorem dX0_putOnOthers_2 : decode cX0_putOnOthers 2 = .ok (.iconst 0, 1) := by decide +kernel
theorem dX0_putOnOthers_3 : decode cX0_putOnOthers 3 = .ok (.istore 4, 2) := by decide +kernel
theorem dX0_putOnOthers_5 : decode cX0_putOnOthers 5 = .ok (.iload 4, 2) := by decide +kernel
theorem dX0_putOnOthers_7 : decode cX0_putOnOthers 7 = .ok (.iconst 5, 1) := by decide +kernel
theorem dX0_putOnOthers_8 : decode cX0_putOnOthers 8 = .ok (.if_icmp .ge 56, 3) := by decide +kernel
theorem dX0_putOnOthers_11 : decode cX0_putOnOthers 11 = .ok (.iload_n 1, 1) := by decide +kernel
theorem dX0_putOnOthers_12 : decode cX0_putOnOthers 12 = .ok (.iload 4, 2) := by decide +kernel
theorem dX0_putOnOthers_14 : decode cX0_putOnOthers 14 = .ok (.invokestatic 73, 3) := by decide +kernel
theorem dX0_putOnOthers_17 : decode cX0_putOnOthers 17 = .ok (.ifCond .ne 41, 3) := by decide +kernel
theorem dX0_putOnOthers_20 : decode cX0_putOnOthers 20 = .ok (.iload_n 3, 1) := by decide +kernel
theorem dX0_putOnOthers_21 : decode cX0_putOnOthers 21 = .ok (.aload_n 0, 1) := by decide +kernel
theorem dX0_putOnOthers_22 : decode cX0_putOnOthers 22 = .ok (.getfield 9, 3) := by decide +kernel
theorem dX0_putOnOthers_25 : decode cX0_putOnOthers 25 = .ok (.iload 4, 2) := by decide +kernel
theorem dX0_putOnOthers_27 : decode cX0_putOnOthers 27 = .ok (.iaload, 1) := by decide +kernel
theorem dX0_putOnOthers_28 : decode cX0_putOnOthers 28 = .ok (.aload_n 0, 1) := by decide +kernel
theorem dX0_putOnOthers_29 : decode cX0_putOnOthers 29 = .ok (.getfield 18, 3) := by decide +kernel
theorem dX0_putOnOthers_32 : decode cX0_putOnOthers 32 = .ok (.iload 4, 2) := by decide +kernel
theorem dX0_putOnOthers_34 : decode cX0_putOnOthers 34 = .ok (.iaload, 1) := by decide +kernel
theorem dX0_putOnOthers_35 : decode cX0_putOnOthers 35 = .ok (.isub, 1) := by decide +kernel
theorem dX0_putOnOthers_36 : decode cX0_putOnOthers 36 = .ok (.invokestatic 101, 3) := by decide +kernel
theorem dX0_putOnOthers_39 : decode cX0_putOnOthers 39 = .ok (.istore 5, 2) := by decide +kernel
theorem dX0_putOnOthers_41 : decode cX0_putOnOthers 41 = .ok (.aload_n 0, 1) := by decide +kernel
theorem dX0_putOnOthers_42 : decode cX0_putOnOthers 42 = .ok (.getfield 18, 3) := by decide +kernel
theorem dX0_putOnOthers_45 : decode cX0_putOnOthers 45 = .ok (.iload 4, 2) := by decide +kernel
theorem dX0_putOnOthers_47 : decode cX0_putOnOthers 47 = .ok (.dup2, 1) := by decide +kernel
theorem dX0_putOnOthers_48 : decode cX0_putOnOthers 48 = .ok (.iaload, 1) := by decide +kernel
theorem dX0_putOnOthers_49 : decode cX0_putOnOthers 49 = .ok (.iload 5, 2) := by decide +kernel
theorem dX0_putOnOthers_51 : decode cX0_putOnOthers 51 = .ok (.iadd, 1) := by decide +kernel
theorem dX0_putOnOthers_52 : decode cX0_putOnOthers 52 = .ok (.iastore, 1) := by decide +kernel
theorem dX0_putOnOthers_53 : decode cX0_putOnOthers 53 = .ok (.iload_n 3, 1) := by decide +kernel
theorem dX0_putOnOthers_54 : decode cX0_putOnOthers 54 = .ok (.iload 5, 2) := by decide +kernel
theorem dX0_putOnOthers_56 : decode cX0_putOnOthers 56 = .ok (.isub, 1) := by decide +kernel
theorem dX0_putOnOthers_57 : decode cX0_putOnOthers 57 = .ok (.istore_n 3, 1) := by decide +kernel
theorem dX0_putOnOthers_58 : decode cX0_putOnOthers 58 = .ok (.iinc 4 1, 3) := by decide +kernel
theorem dX0_putOnOthers_61 : decode cX0_putOnOthers 61 = .ok (.goto (-56), 3) := by decide +kernel
theorem dX0_putOnOthers_64 : decode cX0_putOnOthers 64 = .ok (.return_, 1) := by decide +kernel
theorem dX0_excess_0 : decode cX0_excess 0 = .ok (.iload_n 2, 1) := by decide +kernel
theorem dX0_excess_1 : decode cX0_excess 1 = .ok (.ifCond .lt 9, 3) := by decide +kernel
theorem dX0_excess_4 : decode cX0_excess 4 = .ok (.iload_n 2, 1) := by decide +kernel
theorem dX0_excess_5 : decode cX0_excess 5 = .ok (.bipush 32, 2) := by decide +kernel
theorem dX0_excess_7 : decode cX0_excess 7 = .ok (.if_icmp .lt 5, 3) := by decide +kernel
theorem dX0_excess_10 : decode cX0_excess 10 = .ok (.iconst 0, 1) := by decide +kernel
theorem dX0_excess_11 : decode cX0_excess 11 = .ok (.ireturn, 1) := by decide +kernel
theorem dX0_excess_12 : decode cX0_excess 12 = .ok (.aload_n 0, 1) := by decide +kernel
theorem dX0_excess_13 : decode cX0_excess 13 = .ok (.getfield 9, 3) := by decide +kernel
theorem dX0_excess_16 : decode cX0_excess 16 = .ok (.iload_n 2, 1) := by decide +kernel
theorem dX0_excess_17 : decode cX0_excess 17 = .ok (.invokestatic 61, 3) := by decide +kernel
theorem dX0_excess_20 : decode cX0_excess 20 = .ok (.aload_n 1, 1) := by decide +kernel
theorem dX0_excess_21 : decode cX0_excess 21 = .ok (.iload_n 2, 1) := by decide +kernel
theorem dX0_excess_22 : decode cX0_excess 22 = .ok (.invokestatic 61, 3) := by decide +kernel
theorem dX0_excess_25 : decode cX0_excess 25 = .ok (.isub, 1) := by decide +kernel
theorem dX0_excess_26 : decode cX0_excess 26 = .ok (.istore_n 3, 1) := by decide +kernel
theorem dX0_excess_27 : decode cX0_excess 27 = .ok (.aload_n 0, 1) := by decide +kernel
theorem dX0_excess_28 : decode cX0_excess 28 = .ok (.getfield 21, 3) := by decide +kernel
theorem dX0_excess_31 : decode cX0_excess 31 = .ok (.iload_n 2, 1) := by decide +kernel
theorem dX0_excess_32 : decode cX0_excess 32 = .ok (.iaload, 1) := by decide +kernel
theorem dX0_excess_33 : decode cX0_excess 33 = .ok (.aload_n 1, 1) := by decide +kernel
theorem dX0_excess_34 : decode cX0_excess 34 = .ok (.bipush 31, 2) := by decide +kernel
theorem dX0_excess_36 : decode cX0_excess 36 = .ok (.invokestatic 61, 3) := by decide +kernel
theorem dX0_excess_39 : decode cX0_excess 39 = .ok (.isub, 1) := by decide +kernel
theorem dX0_excess_40 : decode cX0_excess 40 = .ok (.iload_n 3, 1) := by decide +kernel
theorem dX0_excess_41 : decode cX0_excess 41 = .ok (.isub, 1) := by decide +kernel
theorem dX0_excess_42 : decode cX0_excess 42 = .ok (.aload_n 0, 1) := by decide +kernel
theorem dX0_excess_43 : decode cX0_excess 43 = .ok (.getfield 31, 3) := by decide +kernel
theorem dX0_excess_46 : decode cX0_excess 46 = .ok (.isub, 1) := by decide +kernel
theorem dX0_excess_47 : decode cX0_excess 47 = .ok (.ireturn, 1) := by decide +kernel
theorem dX0_blocker_0 : decode cX0_blocker 0 = .ok (.iconst 0, 1) := by decide +kernel
theorem dX0_blocker_1 : decode cX0_blocker 1 = .ok (.istore_n 2, 1) := by decide +kernel
theorem dX0_blocker_2 : decode cX0_blocker 2 = .ok (.bipush (-9), 2) := by decide +kernel
theorem dX0_blocker_4 : decode cX0_blocker 4 = .ok (.istore_n 3, 1) := by decide +kernel
theorem dX0_blocker_5 : decode cX0_blocker 5 = .ok (.iconst 0, 1) := by decide +kernel
theorem dX0_blocker_6 : decode cX0_blocker 6 = .ok (.istore 4, 2) := by decide +kernel
theorem dX0_blocker_8 : decode cX0_blocker 8 = .ok (.iload 4, 2) := by decide +kernel
theorem dX0_blocker_10 : decode cX0_blocker 10 = .ok (.bipush 32, 2) := by decide +kernel
theorem dX0_blocker_12 : decode cX0_blocker 12 = .ok (.if_icmp .ge 31, 3) := by decide +kernel
theorem dX0_blocker_15 : decode cX0_blocker 15 = .ok (.aload_n 0, 1) := by decide +kernel
theorem dX0_blocker_16 : decode cX0_blocker 16 = .ok (.aload_n 1, 1) := by decide +kernel
theorem dX0_blocker_17 : decode cX0_blocker 17 = .ok (.iload 4, 2) := by decide +kernel
theorem dX0_blocker_19 : decode cX0_blocker 19 = .ok (.invokevirtual 94, 3) := by decide +kernel
theorem dX0_blocker_22 : decode cX0_blocker 22 = .ok (.iload_n 2, 1) := by decide +kernel
theorem dX0_blocker_23 : decode cX0_blocker 23 = .ok (.if_icmp .le 14, 3) := by decide +kernel
theorem dX0_blocker_26 : decode cX0_blocker 26 = .ok (.aload_n 0, 1) := by decide +kernel
theorem dX0_blocker_27 : decode cX0_blocker 27 = .ok (.aload_n 1, 1) := by decide +kernel
theorem dX0_blocker_28 : decode cX0_blocker 28 = .ok (.iload 4, 2) := by decide +kernel
theorem dX0_blocker_30 : decode cX0_blocker 30 = .ok (.invokevirtual 94, 3) := by decide +kernel
theorem dX0_blocker_33 : decode cX0_blocker 33 = .ok (.istore_n 2, 1) := by decide +kernel
theorem dX0_blocker_34 : decode cX0_blocker 34 = .ok (.iload 4, 2) := by decide +kernel
theorem dX0_blocker_36 : decode cX0_blocker 36 = .ok (.istore_n 3, 1) := by decide +kernel
theorem dX0_blocker_37 : decode cX0_blocker 37 = .ok (.iinc 4 1, 3) := by decide +kernel
theorem dX0_blocker_40 : decode cX0_blocker 40 = .ok (.goto (-32), 3) := by decide +kernel
theorem dX0_blocker_43 : decode cX0_blocker 43 = .ok (.iload_n 3, 1) := by decide +kernel
theorem dX0_blocker_44 : decode cX0_blocker 44 = .ok (.ireturn, 1) := by decide +kernel
theorem dX1_init_0 : decode cX1_init 0 = .ok (.aload_n 0, 1) := by decide +kernel
theorem dX1_init_1 : decode cX1_init 1 = .ok (.invokespecial 3, 3) := by decide +kernel
theorem dX1_init_4 : decode cX1_init 4 = .ok (.aload_n 0, 1) := by decide +kernel
theorem dX1_init_5 : decode cX1_init 5 = .ok (.sipush 1024, 3) := by decide +kernel
theorem dX1_init_8 : decode cX1_init 8 = .ok (.newarray .int, 2) := by decide +kernel
theorem dX1_init_10 : decode cX1_init 10 = .ok (.putfield 11, 3) := by decide +kernel
theorem dX1_init_13 : decode cX1_init 13 = .ok (.aload_n 0, 1) := by decide +kernel
theorem dX1_init_14 : decode cX1_init 14 = .ok (.sipush 1024, 3) := by decide +kernel
theorem dX1_init_17 : decode cX1_init 17 = .ok (.newarray .int, 2) := by decide +kernel
theorem dX1_init_19 : decode cX1_init 19 = .ok (.putfield 15, 3) := by decide +kernel
theorem dX1_init_22 : decode cX1_init 22 = .ok (.aload_n 0, 1) := by decide +kernel
theorem dX1_init_23 : decode cX1_init 23 = .ok (.sipush 1024, 3) := by decide +kernel
theorem dX1_init_26 : decode cX1_init 26 = .ok (.newarray .int, 2) := by decide +kernel
theorem dX1_init_28 : decode cX1_init 28 = .ok (.putfield 18, 3) := by decide +kernel
theorem dX1_init_31 : decode cX1_init 31 = .ok (.aload_n 0, 1) := by decide +kernel
theorem dX1_init_32 : decode cX1_init 32 = .ok (.sipush 1024, 3) := by decide +kernel
theorem dX1_init_35 : decode cX1_init 35 = .ok (.newarray .int, 2) := by decide +kernel
theorem dX1_init_37 : decode cX1_init 37 = .ok (.putfield 21, 3) := by decide +kernel
theorem dX1_init_40 : decode cX1_init 40 = .ok (.aload_n 0, 1) := by decide +kernel
theorem dX1_init_41 : decode cX1_init 41 = .ok (.iconst 0, 1) := by decide +kernel
theorem dX1_init_42 : decode cX1_init 42 = .ok (.putfield 24, 3) := by decide +kernel
theorem dX1_init_45 : decode cX1_init 45 = .ok (.aload_n 0, 1) := by decide +kernel
theorem dX1_init_46 : decode cX1_init 46 = .ok (.iconst 0, 1) := by decide +kernel
theorem dX1_init_47 : decode cX1_init 47 = .ok (.putfield 28, 3) := by decide +kernel
theorem dX1_init_50 : decode cX1_init 50 = .ok (.return_, 1) := by decide +kernel
theorem dX1_bidsIn_0 : decode cX1_bidsIn 0 = .ok (.iload_n 0, 1) := by decide +kernel
theorem dX1_bidsIn_1 : decode cX1_bidsIn 1 = .ok (.sipush 1023, 3) := by decide +kernel
theorem dX1_bidsIn_4 : decode cX1_bidsIn 4 = .ok (.iand, 1) := by decide +kernel
theorem dX1_bidsIn_5 : decode cX1_bidsIn 5 = .ok (.ireturn, 1) := by decide +kernel
theorem dX1_worthIn_0 : decode cX1_worthIn 0 = .ok (.sipush 1023, 3) := by decide +kernel
theorem dX1_worthIn_3 : decode cX1_worthIn 3 = .ok (.iload_n 0, 1) := by decide +kernel
theorem dX1_worthIn_4 : decode cX1_worthIn 4 = .ok (.bipush 14, 2) := by decide +kernel
theorem dX1_worthIn_6 : decode cX1_worthIn 6 = .ok (.ishr, 1) := by decide +kernel
theorem dX1_worthIn_7 : decode cX1_worthIn 7 = .ok (.isub, 1) := by decide +kernel
theorem dX1_worthIn_8 : decode cX1_worthIn 8 = .ok (.ireturn, 1) := by decide +kernel
theorem dX1_keyOf_0 : decode cX1_keyOf 0 = .ok (.sipush 1023, 3) := by decide +kernel
theorem dX1_keyOf_3 : decode cX1_keyOf 3 = .ok (.iload_n 1, 1) := by decide +kernel
theorem dX1_keyOf_4 : decode cX1_keyOf 4 = .ok (.isub, 1) := by decide +kernel
theorem dX1_keyOf_5 : decode cX1_keyOf 5 = .ok (.bipush 14, 2) := by decide +kernel
theorem dX1_keyOf_7 : decode cX1_keyOf 7 = .ok (.ishl, 1) := by decide +kernel
theorem dX1_keyOf_8 : decode cX1_keyOf 8 = .ok (.iload_n 0, 1) := by decide +kernel
theorem dX1_keyOf_9 : decode cX1_keyOf 9 = .ok (.invokestatic 31, 3) := by decide +kernel
theorem dX1_keyOf_12 : decode cX1_keyOf 12 = .ok (.bipush 10, 2) := by decide +kernel
theorem dX1_keyOf_14 : decode cX1_keyOf 14 = .ok (.ishl, 1) := by decide +kernel
theorem dX1_keyOf_15 : decode cX1_keyOf 15 = .ok (.ior, 1) := by decide +kernel
theorem dX1_keyOf_16 : decode cX1_keyOf 16 = .ok (.iload_n 0, 1) := by decide +kernel
theorem dX1_keyOf_17 : decode cX1_keyOf 17 = .ok (.ior, 1) := by decide +kernel
theorem dX1_keyOf_18 : decode cX1_keyOf 18 = .ok (.ireturn, 1) := by decide +kernel
theorem dX1_gather_0 : decode cX1_gather 0 = .ok (.aload_n 0, 1) := by decide +kernel
theorem dX1_gather_1 : decode cX1_gather 1 = .ok (.aload_n 1, 1) := by decide +kernel
theorem dX1_gather_2 : decode cX1_gather 2 = .ok (.invokevirtual 37, 3) := by decide +kernel
theorem dX1_gather_5 : decode cX1_gather 5 = .ok (.aload_n 0, 1) := by decide +kernel
theorem dX1_gather_6 : decode cX1_gather 6 = .ok (.iconst 0, 1) := by decide +kernel
theorem dX1_gather_7 : decode cX1_gather 7 = .ok (.putfield 28, 3) := by decide +kernel
theorem dX1_gather_10 : decode cX1_gather 10 = .ok (.iconst 0, 1) := by decide +kernel
theorem dX1_gather_11 : decode cX1_gather 11 = .ok (.istore_n 2, 1) := by decide +kernel
theorem dX1_gather_12 : decode cX1_gather 12 = .ok (.iload_n 2, 1) := by decide +kernel
theorem dX1_gather_13 : decode cX1_gather 13 = .ok (.aload_n 0, 1) := by decide +kernel
theorem dX1_gather_14 : decode cX1_gather 14 = .ok (.getfield 24, 3) := by decide +kernel
theorem dX1_gather_17 : decode cX1_gather 17 = .ok (.if_icmp .ge 73, 3) := by decide +kernel
theorem dX1_gather_20 : decode cX1_gather 20 = .ok (.iload_n 2, 1) := by decide +kernel
theorem dX1_gather_21 : decode cX1_gather 21 = .ok (.sipush 1024, 3) := by decide +kernel
theorem dX1_gather_24 : decode cX1_gather 24 = .ok (.if_icmp .ge 66, 3) := by decide +kernel
theorem dX1_gather_27 : decode cX1_gather 27 = .ok (.aload_n 0, 1) := by decide +kernel
theorem dX1_gather_28 : decode cX1_gather 28 = .ok (.getfield 28, 3) := by decide +kernel
theorem dX1_gather_31 : decode cX1_gather 31 = .ok (.sipush 1024, 3) := by decide +kernel
theorem dX1_gather_34 : decode cX1_gather 34 = .ok (.if_icmp .ge 50, 3) := by decide +kernel
theorem dX1_gather_37 : decode cX1_gather 37 = .ok (.aload_n 1, 1) := by decide +kernel
theorem dX1_gather_38 : decode cX1_gather 38 = .ok (.aload_n 0, 1) := by decide +kernel
theorem dX1_gather_39 : decode cX1_gather 39 = .ok (.getfield 11, 3) := by decide +kernel
theorem dX1_gather_42 : decode cX1_gather 42 = .ok (.iload_n 2, 1) := by decide +kernel
theorem dX1_gather_43 : decode cX1_gather 43 = .ok (.iaload, 1) := by decide +kernel
theorem dX1_gather_44 : decode cX1_gather 44 = .ok (.invokevirtual 41, 3) := by decide +kernel
theorem dX1_gather_47 : decode cX1_gather 47 = .ok (.ifCond .eq 37, 3) := by decide +kernel
theorem dX1_gather_50 : decode cX1_gather 50 = .ok (.aload_n 0, 1) := by decide +kernel
theorem dX1_gather_51 : decode cX1_gather 51 = .ok (.getfield 21, 3) := by decide +kernel
theorem dX1_gather_54 : decode cX1_gather 54 = .ok (.aload_n 0, 1) := by decide +kernel
theorem dX1_gather_55 : decode cX1_gather 55 = .ok (.getfield 28, 3) := by decide +kernel
theorem dX1_gather_58 : decode cX1_gather 58 = .ok (.aload_n 0, 1) := by decide +kernel
theorem dX1_gather_59 : decode cX1_gather 59 = .ok (.getfield 11, 3) := by decide +kernel
theorem dX1_gather_62 : decode cX1_gather 62 = .ok (.iload_n 2, 1) := by decide +kernel
theorem dX1_gather_63 : decode cX1_gather 63 = .ok (.iaload, 1) := by decide +kernel
theorem dX1_gather_64 : decode cX1_gather 64 = .ok (.aload_n 0, 1) := by decide +kernel
theorem dX1_gather_65 : decode cX1_gather 65 = .ok (.getfield 18, 3) := by decide +kernel
theorem dX1_gather_68 : decode cX1_gather 68 = .ok (.iload_n 2, 1) := by decide +kernel
theorem dX1_gather_69 : decode cX1_gather 69 = .ok (.iaload, 1) := by decide +kernel
theorem dX1_gather_70 : decode cX1_gather 70 = .ok (.invokestatic 47, 3) := by decide +kernel
theorem dX1_gather_73 : decode cX1_gather 73 = .ok (.iastore, 1) := by decide +kernel
theorem dX1_gather_74 : decode cX1_gather 74 = .ok (.aload_n 0, 1) := by decide +kernel
theorem dX1_gather_75 : decode cX1_gather 75 = .ok (.dup, 1) := by decide +kernel
theorem dX1_gather_76 : decode cX1_gather 76 = .ok (.getfield 28, 3) := by decide +kernel
theorem dX1_gather_79 : decode cX1_gather 79 = .ok (.iconst 1, 1) := by decide +kernel
theorem dX1_gather_80 : decode cX1_gather 80 = .ok (.iadd, 1) := by decide +kernel
theorem dX1_gather_81 : decode cX1_gather 81 = .ok (.putfield 28, 3) := by decide +kernel
theorem dX1_gather_84 : decode cX1_gather 84 = .ok (.iinc 2 1, 3) := by decide +kernel
theorem dX1_gather_87 : decode cX1_gather 87 = .ok (.goto (-75), 3) := by decide +kernel
theorem dX1_gather_90 : decode cX1_gather 90 = .ok (.return_, 1) := by decide +kernel
theorem dX1_gatherPacks_0 : decode cX1_gatherPacks 0 = .ok (.aload_n 0, 1) := by decide +kernel
theorem dX1_gatherPacks_1 : decode cX1_gatherPacks 1 = .ok (.iconst 0, 1) := by decide +kernel
theorem dX1_gatherPacks_2 : decode cX1_gatherPacks 2 = .ok (.putfield 24, 3) := by decide +kernel
theorem dX1_gatherPacks_5 : decode cX1_gatherPacks 5 = .ok (.aload_n 0, 1) := by decide +kernel
theorem dX1_gatherPacks_6 : decode cX1_gatherPacks 6 = .ok (.iconst 0, 1) := by decide +kernel
theorem dX1_gatherPacks_7 : decode cX1_gatherPacks 7 = .ok (.iconst 0, 1) := by decide +kernel
theorem dX1_gatherPacks_8 : decode cX1_gatherPacks 8 = .ok (.aload_n 1, 1) := by decide +kernel
theorem dX1_gatherPacks_9 : decode cX1_gatherPacks 9 = .ok (.iconst 0, 1) := by decide +kernel
theorem dX1_gatherPacks_10 : decode cX1_gatherPacks 10 = .ok (.invokevirtual 51, 3) := by decide +kernel
theorem dX1_gatherPacks_13 : decode cX1_gatherPacks 13 = .ok (.invokevirtual 54, 3) := by decide +kernel
theorem dX1_gatherPacks_16 : decode cX1_gatherPacks 16 = .ok (.iconst 0, 1) := by decide +kernel
theorem dX1_gatherPacks_17 : decode cX1_gatherPacks 17 = .ok (.istore_n 2, 1) := by decide +kernel
theorem dX1_gatherPacks_18 : decode cX1_gatherPacks 18 = .ok (.iload_n 2, 1) := by decide +kernel
theorem dX1_gatherPacks_19 : decode cX1_gatherPacks 19 = .ok (.aload_n 1, 1) := by decide +kernel
theorem dX1_gatherPacks_20 : decode cX1_gatherPacks 20 = .ok (.getfield 58, 3) := by decide +kernel
theorem dX1_gatherPacks_23 : decode cX1_gatherPacks 23 = .ok (.if_icmp .ge 118, 3) := by decide +kernel
theorem dX1_gatherPacks_26 : decode cX1_gatherPacks 26 = .ok (.aload_n 1, 1) := by decide +kernel
theorem dX1_gatherPacks_27 : decode cX1_gatherPacks 27 = .ok (.getfield 61, 3) := by decide +kernel
theorem dX1_gatherPacks_30 : decode cX1_gatherPacks 30 = .ok (.iload_n 2, 1) := by decide +kernel
theorem dX1_gatherPacks_31 : decode cX1_gatherPacks 31 = .ok (.invokestatic 64, 3) := by decide +kernel
theorem dX1_gatherPacks_34 : decode cX1_gatherPacks 34 = .ok (.iconst 1, 1) := by decide +kernel
theorem dX1_gatherPacks_35 : decode cX1_gatherPacks 35 = .ok (.if_icmp .ne 100, 3) := by decide +kernel
theorem dX1_gatherPacks_38 : decode cX1_gatherPacks 38 = .ok (.aload_n 1, 1) := by decide +kernel
theorem dX1_gatherPacks_39 : decode cX1_gatherPacks 39 = .ok (.iload_n 2, 1) := by decide +kernel
theorem dX1_gatherPacks_40 : decode cX1_gatherPacks 40 = .ok (.invokevirtual 67, 3) := by decide +kernel
theorem dX1_gatherPacks_43 : decode cX1_gatherPacks 43 = .ok (.istore_n 3, 1) := by decide +kernel
theorem dX1_gatherPacks_44 : decode cX1_gatherPacks 44 = .ok (.aload_n 1, 1) := by decide +kernel
theorem dX1_gatherPacks_45 : decode cX1_gatherPacks 45 = .ok (.iload_n 2, 1) := by decide +kernel
theorem dX1_gatherPacks_46 : decode cX1_gatherPacks 46 = .ok (.invokevirtual 70, 3) := by decide +kernel
theorem dX1_gatherPacks_49 : decode cX1_gatherPacks 49 = .ok (.aload_n 1, 1) := by decide +kernel
theorem dX1_gatherPacks_50 : decode cX1_gatherPacks 50 = .ok (.iload_n 3, 1) := by decide +kernel
theorem dX1_gatherPacks_51 : decode cX1_gatherPacks 51 = .ok (.iconst (-1), 1) := by decide +kernel
theorem dX1_gatherPacks_52 : decode cX1_gatherPacks 52 = .ok (.ixor, 1) := by decide +kernel
theorem dX1_gatherPacks_53 : decode cX1_gatherPacks 53 = .ok (.invokevirtual 51, 3) := by decide +kernel
theorem dX1_gatherPacks_56 : decode cX1_gatherPacks 56 = .ok (.isub, 1) := by decide +kernel
theorem dX1_gatherPacks_57 : decode cX1_gatherPacks 57 = .ok (.istore 4, 2) := by decide +kernel
theorem dX1_gatherPacks_59 : decode cX1_gatherPacks 59 = .ok (.aload_n 0, 1) := by decide +kernel
theorem dX1_gatherPacks_60 : decode cX1_gatherPacks 60 = .ok (.getfield 24, 3) := by decide +kernel
theorem dX1_gatherPacks_63 : decode cX1_gatherPacks 63 = .ok (.istore 5, 2) := by decide +kernel
theorem dX1_gatherPacks_65 : decode cX1_gatherPacks 65 = .ok (.iconst 0, 1) := by decide +kernel
theorem dX1_gatherPacks_66 : decode cX1_gatherPacks 66 = .ok (.istore 6, 2) := by decide +kernel
theorem dX1_gatherPacks_68 : decode cX1_gatherPacks 68 = .ok (.iload 6, 2) := by decide +kernel
theorem dX1_gatherPacks_70 : decode cX1_gatherPacks 70 = .ok (.iload 5, 2) := by decide +kernel
theorem dX1_gatherPacks_72 : decode cX1_gatherPacks 72 = .ok (.if_icmp .ge 63, 3) := by decide +kernel
theorem dX1_gatherPacks_75 : decode cX1_gatherPacks 75 = .ok (.iload 6, 2) := by decide +kernel
theorem dX1_gatherPacks_77 : decode cX1_gatherPacks 77 = .ok (.sipush 1024, 3) := by decide +kernel
theorem dX1_gatherPacks_80 : decode cX1_gatherPacks 80 = .ok (.if_icmp .ge 55, 3) := by decide +kernel
theorem dX1_gatherPacks_83 : decode cX1_gatherPacks 83 = .ok (.aload_n 0, 1) := by decide +kernel
theorem dX1_gatherPacks_84 : decode cX1_gatherPacks 84 = .ok (.getfield 15, 3) := by decide +kernel
theorem dX1_gatherPacks_87 : decode cX1_gatherPacks 87 = .ok (.iload 6, 2) := by decide +kernel
theorem dX1_gatherPacks_89 : decode cX1_gatherPacks 89 = .ok (.iaload, 1) := by decide +kernel
theorem dX1_gatherPacks_90 : decode cX1_gatherPacks 90 = .ok (.iload_n 3, 1) := by decide +kernel
theorem dX1_gatherPacks_91 : decode cX1_gatherPacks 91 = .ok (.iand, 1) := by decide +kernel
theorem dX1_gatherPacks_92 : decode cX1_gatherPacks 92 = .ok (.ifCond .ne 37, 3) := by decide +kernel
theorem dX1_gatherPacks_95 : decode cX1_gatherPacks 95 = .ok (.aload_n 0, 1) := by decide +kernel
theorem dX1_gatherPacks_96 : decode cX1_gatherPacks 96 = .ok (.aload_n 0, 1) := by decide +kernel
theorem dX1_gatherPacks_97 : decode cX1_gatherPacks 97 = .ok (.getfield 11, 3) := by decide +kernel
theorem dX1_gatherPacks_100 : decode cX1_gatherPacks 100 = .ok (.iload 6, 2) := by decide +kernel
theorem dX1_gatherPacks_102 : decode cX1_gatherPacks 102 = .ok (.iaload, 1) := by decide +kernel
theorem dX1_gatherPacks_103 : decode cX1_gatherPacks 103 = .ok (.iconst 1, 1) := by decide +kernel
theorem dX1_gatherPacks_104 : decode cX1_gatherPacks 104 = .ok (.iload_n 2, 1) := by decide +kernel
theorem dX1_gatherPacks_105 : decode cX1_gatherPacks 105 = .ok (.ishl, 1) := by decide +kernel
theorem dX1_gatherPacks_106 : decode cX1_gatherPacks 106 = .ok (.ior, 1) := by decide +kernel
theorem dX1_gatherPacks_107 : decode cX1_gatherPacks 107 = .ok (.aload_n 0, 1) := by decide +kernel
theorem dX1_gatherPacks_108 : decode cX1_gatherPacks 108 = .ok (.getfield 15, 3) := by decide +kernel
theorem dX1_gatherPacks_111 : decode cX1_gatherPacks 111 = .ok (.iload 6, 2) := by decide +kernel
theorem dX1_gatherPacks_113 : decode cX1_gatherPacks 113 = .ok (.iaload, 1) := by decide +kernel
theorem dX1_gatherPacks_114 : decode cX1_gatherPacks 114 = .ok (.iload_n 3, 1) := by decide +kernel
theorem dX1_gatherPacks_115 : decode cX1_gatherPacks 115 = .ok (.ior, 1) := by decide +kernel
theorem dX1_gatherPacks_116 : decode cX1_gatherPacks 116 = .ok (.aload_n 0, 1) := by decide +kernel
theorem dX1_gatherPacks_117 : decode cX1_gatherPacks 117 = .ok (.getfield 18, 3) := by decide +kernel
theorem dX1_gatherPacks_120 : decode cX1_gatherPacks 120 = .ok (.iload 6, 2) := by decide +kernel
theorem dX1_gatherPacks_122 : decode cX1_gatherPacks 122 = .ok (.iaload, 1) := by decide +kernel
theorem dX1_gatherPacks_123 : decode cX1_gatherPacks 123 = .ok (.iload 4, 2) := by decide +kernel
theorem dX1_gatherPacks_125 : decode cX1_gatherPacks 125 = .ok (.iadd, 1) := by decide +kernel
theorem dX1_gatherPacks_126 : decode cX1_gatherPacks 126 = .ok (.invokevirtual 54, 3) := by decide +kernel
theorem dX1_gatherPacks_129 : decode cX1_gatherPacks 129 = .ok (.iinc 6 1, 3) := by decide +kernel
theorem dX1_gatherPacks_132 : decode cX1_gatherPacks 132 = .ok (.goto (-64), 3) := by decide +kernel
theorem dX1_gatherPacks_135 : decode cX1_gatherPacks 135 = .ok (.iinc 2 1, 3) := by decide +kernel
theorem dX1_gatherPacks_138 : decode cX1_gatherPacks 138 = .ok (.goto (-120), 3) := by decide +kernel
theorem dX1_gatherPacks_141 : decode cX1_gatherPacks 141 = .ok (.return_, 1) := by decide +kernel
theorem dX1_addPack_0 : decode cX1_addPack 0 = .ok (.aload_n 0, 1) := by decide +kernel
theorem dX1_addPack_1 : decode cX1_addPack 1 = .ok (.getfield 24, 3) := by decide +kernel
theorem dX1_addPack_4 : decode cX1_addPack 4 = .ok (.sipush 1024, 3) := by decide +kernel
theorem dX1_addPack_7 : decode cX1_addPack 7 = .ok (.if_icmp .ge 43, 3) := by decide +kernel
theorem dX1_addPack_10 : decode cX1_addPack 10 = .ok (.aload_n 0, 1) := by decide +kernel
theorem dX1_addPack_11 : decode cX1_addPack 11 = .ok (.getfield 11, 3) := by decide +kernel
theorem dX1_addPack_14 : decode cX1_addPack 14 = .ok (.aload_n 0, 1) := by decide +kernel
theorem dX1_addPack_15 : decode cX1_addPack 15 = .ok (.getfield 24, 3) := by decide +kernel
theorem dX1_addPack_18 : decode cX1_addPack 18 = .ok (.iload_n 1, 1) := by decide +kernel
theorem dX1_addPack_19 : decode cX1_addPack 19 = .ok (.iastore, 1) := by decide +kernel
theorem dX1_addPack_20 : decode cX1_addPack 20 = .ok (.aload_n 0, 1) := by decide +kernel
theorem dX1_addPack_21 : decode cX1_addPack 21 = .ok (.getfield 15, 3) := by decide +kernel
theorem dX1_addPack_24 : decode cX1_addPack 24 = .ok (.aload_n 0, 1) := by decide +kernel
theorem dX1_addPack_25 : decode cX1_addPack 25 = .ok (.getfield 24, 3) := by decide +kernel
theorem dX1_addPack_28 : decode cX1_addPack 28 = .ok (.iload_n 2, 1) := by decide +kernel
theorem dX1_addPack_29 : decode cX1_addPack 29 = .ok (.iastore, 1) := by decide +kernel
theorem dX1_addPack_30 : decode cX1_addPack 30 = .ok (.aload_n 0, 1) := by decide +kernel
theorem dX1_addPack_31 : decode cX1_addPack 31 = .ok (.getfield 18, 3) := by decide +kernel
theorem dX1_addPack_34 : decode cX1_addPack 34 = .ok (.aload_n 0, 1) := by decide +kernel
theorem dX1_addPack_35 : decode cX1_addPack 35 = .ok (.getfield 24, 3) := by decide +kernel
theorem dX1_addPack_38 : decode cX1_addPack 38 = .ok (.iload_n 3, 1) := by decide +kernel
theorem dX1_addPack_39 : decode cX1_addPack 39 = .ok (.iastore, 1) := by decide +kernel
theorem dX1_addPack_40 : decode cX1_addPack 40 = .ok (.aload_n 0, 1) := by decide +kernel
theorem dX1_addPack_41 : decode cX1_addPack 41 = .ok (.dup, 1) := by decide +kernel
theorem dX1_addPack_42 : decode cX1_addPack 42 = .ok (.getfield 24, 3) := by decide +kernel
theorem dX1_addPack_45 : decode cX1_addPack 45 = .ok (.iconst 1, 1) := by decide +kernel
theorem dX1_addPack_46 : decode cX1_addPack 46 = .ok (.iadd, 1) := by decide +kernel
theorem dX1_addPack_47 : decode cX1_addPack 47 = .ok (.putfield 24, 3) := by decide +kernel
theorem dX1_addPack_50 : decode cX1_addPack 50 = .ok (.return_, 1) := by decide +kernel
theorem dX1_keyAt_0 : decode cX1_keyAt 0 = .ok (.iload_n 1, 1) := by decide +kernel
theorem dX1_keyAt_1 : decode cX1_keyAt 1 = .ok (.ifCond .lt 27, 3) := by decide +kernel
theorem dX1_keyAt_4 : decode cX1_keyAt 4 = .ok (.iload_n 1, 1) := by decide +kernel
theorem dX1_keyAt_5 : decode cX1_keyAt 5 = .ok (.aload_n 0, 1) := by decide +kernel
theorem dX1_keyAt_6 : decode cX1_keyAt 6 = .ok (.getfield 28, 3) := by decide +kernel
theorem dX1_keyAt_9 : decode cX1_keyAt 9 = .ok (.if_icmp .ge 19, 3) := by decide +kernel
theorem dX1_keyAt_12 : decode cX1_keyAt 12 = .ok (.iload_n 1, 1) := by decide +kernel
theorem dX1_keyAt_13 : decode cX1_keyAt 13 = .ok (.sipush 1024, 3) := by decide +kernel
theorem dX1_keyAt_16 : decode cX1_keyAt 16 = .ok (.if_icmp .ge 12, 3) := by decide +kernel
theorem dX1_keyAt_19 : decode cX1_keyAt 19 = .ok (.aload_n 0, 1) := by decide +kernel
theorem dX1_keyAt_20 : decode cX1_keyAt 20 = .ok (.getfield 21, 3) := by decide +kernel
theorem dX1_keyAt_23 : decode cX1_keyAt 23 = .ok (.iload_n 1, 1) := by decide +kernel
theorem dX1_keyAt_24 : decode cX1_keyAt 24 = .ok (.iaload, 1) := by decide +kernel
theorem dX1_keyAt_25 : decode cX1_keyAt 25 = .ok (.goto 5, 3) := by decide +kernel
theorem dX1_keyAt_28 : decode cX1_keyAt 28 = .ok (.ldc 73, 2) := by decide +kernel
theorem dX1_keyAt_30 : decode cX1_keyAt 30 = .ok (.ireturn, 1) := by decide +kernel
theorem dX1_has_0 : decode cX1_has 0 = .ok (.iconst 0, 1) := by decide +kernel
theorem dX1_has_1 : decode cX1_has 1 = .ok (.istore_n 2, 1) := by decide +kernel
theorem dX1_has_2 : decode cX1_has 2 = .ok (.iload_n 2, 1) := by decide +kernel
theorem dX1_has_3 : decode cX1_has 3 = .ok (.aload_n 0, 1) := by decide +kernel
theorem dX1_has_4 : decode cX1_has 4 = .ok (.getfield 28, 3) := by decide +kernel
theorem dX1_has_7 : decode cX1_has 7 = .ok (.if_icmp .ge 23, 3) := by decide +kernel
theorem dX1_has_10 : decode cX1_has 10 = .ok (.aload_n 0, 1) := by decide +kernel
theorem dX1_has_11 : decode cX1_has 11 = .ok (.iload_n 2, 1) := by decide +kernel
theorem dX1_has_12 : decode cX1_has 12 = .ok (.invokevirtual 74, 3) := by decide +kernel
theorem dX1_has_15 : decode cX1_has 15 = .ok (.invokestatic 77, 3) := by decide +kernel
theorem dX1_has_18 : decode cX1_has 18 = .ok (.iload_n 1, 1) := by decide +kernel
theorem dX1_has_19 : decode cX1_has 19 = .ok (.if_icmp .ne 5, 3) := by decide +kernel
theorem dX1_has_22 : decode cX1_has 22 = .ok (.iconst 1, 1) := by decide +kernel
theorem dX1_has_23 : decode cX1_has 23 = .ok (.ireturn, 1) := by decide +kernel
theorem dX1_has_24 : decode cX1_has 24 = .ok (.iinc 2 1, 3) := by decide +kernel
theorem dX1_has_27 : decode cX1_has 27 = .ok (.goto (-25), 3) := by decide +kernel
theorem dX1_has_30 : decode cX1_has 30 = .ok (.iconst 0, 1) := by decide +kernel
theorem dX1_has_31 : decode cX1_has 31 = .ok (.ireturn, 1) := by decide +kernel
theorem dX1_first_0 : decode cX1_first 0 = .ok (.ldc 73, 2) := by decide +kernel
theorem dX1_first_2 : decode cX1_first 2 = .ok (.istore_n 2, 1) := by decide +kernel
theorem dX1_first_3 : decode cX1_first 3 = .ok (.iconst 0, 1) := by decide +kernel
theorem dX1_first_4 : decode cX1_first 4 = .ok (.istore_n 3, 1) := by decide +kernel
theorem dX1_first_5 : decode cX1_first 5 = .ok (.iload_n 3, 1) := by decide +kernel
theorem dX1_first_6 : decode cX1_first 6 = .ok (.aload_n 0, 1) := by decide +kernel
theorem dX1_first_7 : decode cX1_first 7 = .ok (.getfield 28, 3) := by decide +kernel
theorem dX1_first_10 : decode cX1_first 10 = .ok (.if_icmp .ge 37, 3) := by decide +kernel
theorem dX1_first_13 : decode cX1_first 13 = .ok (.aload_n 0, 1) := by decide +kernel
theorem dX1_first_14 : decode cX1_first 14 = .ok (.iload_n 3, 1) := by decide +kernel
theorem dX1_first_15 : decode cX1_first 15 = .ok (.invokevirtual 74, 3) := by decide +kernel
theorem dX1_first_18 : decode cX1_first 18 = .ok (.istore 4, 2) := by decide +kernel
theorem dX1_first_20 : decode cX1_first 20 = .ok (.iload 4, 2) := by decide +kernel
theorem dX1_first_22 : decode cX1_first 22 = .ok (.iload_n 2, 1) := by decide +kernel
theorem dX1_first_23 : decode cX1_first 23 = .ok (.if_icmp .ge 18, 3) := by decide +kernel
theorem dX1_first_26 : decode cX1_first 26 = .ok (.iload 4, 2) := by decide +kernel
theorem dX1_first_28 : decode cX1_first 28 = .ok (.invokestatic 77, 3) := by decide +kernel
theorem dX1_first_31 : decode cX1_first 31 = .ok (.iload_n 1, 1) := by decide +kernel
theorem dX1_first_32 : decode cX1_first 32 = .ok (.iconst (-1), 1) := by decide +kernel
theorem dX1_first_33 : decode cX1_first 33 = .ok (.ixor, 1) := by decide +kernel
theorem dX1_first_34 : decode cX1_first 34 = .ok (.iand, 1) := by decide +kernel
theorem dX1_first_35 : decode cX1_first 35 = .ok (.ifCond .ne 6, 3) := by decide +kernel
theorem dX1_first_38 : decode cX1_first 38 = .ok (.iload 4, 2) := by decide +kernel
theorem dX1_first_40 : decode cX1_first 40 = .ok (.istore_n 2, 1) := by decide +kernel
theorem dX1_first_41 : decode cX1_first 41 = .ok (.iinc 3 1, 3) := by decide +kernel
theorem dX1_first_44 : decode cX1_first 44 = .ok (.goto (-39), 3) := by decide +kernel
theorem dX1_first_47 : decode cX1_first 47 = .ok (.iload_n 2, 1) := by decide +kernel
theorem dX1_first_48 : decode cX1_first 48 = .ok (.ireturn, 1) := by decide +kernel
theorem dX1_ranked_0 : decode cX1_ranked 0 = .ok (.iconst (-1), 1) := by decide +kernel
theorem dX1_ranked_1 : decode cX1_ranked 1 = .ok (.istore_n 2, 1) := by decide +kernel
theorem dX1_ranked_2 : decode cX1_ranked 2 = .ok (.iconst 0, 1) := by decide +kernel
theorem dX1_ranked_3 : decode cX1_ranked 3 = .ok (.istore_n 3, 1) := by decide +kernel
theorem dX1_ranked_4 : decode cX1_ranked 4 = .ok (.iload_n 3, 1) := by decide +kernel
theorem dX1_ranked_5 : decode cX1_ranked 5 = .ok (.iload_n 1, 1) := by decide +kernel
theorem dX1_ranked_6 : decode cX1_ranked 6 = .ok (.if_icmp .gt 23, 3) := by decide +kernel
theorem dX1_ranked_9 : decode cX1_ranked 9 = .ok (.iload_n 3, 1) := by decide +kernel
theorem dX1_ranked_10 : decode cX1_ranked 10 = .ok (.aload_n 0, 1) := by decide +kernel
theorem dX1_ranked_11 : decode cX1_ranked 11 = .ok (.getfield 28, 3) := by decide +kernel
theorem dX1_ranked_14 : decode cX1_ranked 14 = .ok (.if_icmp .ge 15, 3) := by decide +kernel
theorem dX1_ranked_17 : decode cX1_ranked 17 = .ok (.aload_n 0, 1) := by decide +kernel
theorem dX1_ranked_18 : decode cX1_ranked 18 = .ok (.iload_n 2, 1) := by decide +kernel
theorem dX1_ranked_19 : decode cX1_ranked 19 = .ok (.invokevirtual 80, 3) := by decide +kernel
theorem dX1_ranked_22 : decode cX1_ranked 22 = .ok (.istore_n 2, 1) := by decide +kernel
theorem dX1_ranked_23 : decode cX1_ranked 23 = .ok (.iinc 3 1, 3) := by decide +kernel
theorem dX1_ranked_26 : decode cX1_ranked 26 = .ok (.goto (-22), 3) := by decide +kernel
theorem dX1_ranked_29 : decode cX1_ranked 29 = .ok (.iload_n 2, 1) := by decide +kernel
theorem dX1_ranked_30 : decode cX1_ranked 30 = .ok (.ireturn, 1) := by decide +kernel
theorem dX1_nextAbove_0 : decode cX1_nextAbove 0 = .ok (.ldc 73, 2) := by decide +kernel
theorem dX1_nextAbove_2 : decode cX1_nextAbove 2 = .ok (.istore_n 2, 1) := by decide +kernel
theorem dX1_nextAbove_3 : decode cX1_nextAbove 3 = .ok (.iconst 0, 1) := by decide +kernel
theorem dX1_nextAbove_4 : decode cX1_nextAbove 4 = .ok (.istore_n 3, 1) := by decide +kernel
theorem dX1_nextAbove_5 : decode cX1_nextAbove 5 = .ok (.iload_n 3, 1) := by decide +kernel
theorem dX1_nextAbove_6 : decode cX1_nextAbove 6 = .ok (.aload_n 0, 1) := by decide +kernel
theorem dX1_nextAbove_7 : decode cX1_nextAbove 7 = .ok (.getfield 28, 3) := by decide +kernel
theorem dX1_nextAbove_10 : decode cX1_nextAbove 10 = .ok (.if_icmp .ge 31, 3) := by decide +kernel
theorem dX1_nextAbove_13 : decode cX1_nextAbove 13 = .ok (.aload_n 0, 1) := by decide +kernel
theorem dX1_nextAbove_14 : decode cX1_nextAbove 14 = .ok (.iload_n 3, 1) := by decide +kernel
theorem dX1_nextAbove_15 : decode cX1_nextAbove 15 = .ok (.invokevirtual 74, 3) := by decide +kernel
theorem dX1_nextAbove_18 : decode cX1_nextAbove 18 = .ok (.istore 4, 2) := by decide +kernel
theorem dX1_nextAbove_20 : decode cX1_nextAbove 20 = .ok (.iload 4, 2) := by decide +kernel
theorem dX1_nextAbove_22 : decode cX1_nextAbove 22 = .ok (.iload_n 1, 1) := by decide +kernel
theorem dX1_nextAbove_23 : decode cX1_nextAbove 23 = .ok (.if_icmp .le 12, 3) := by decide +kernel
theorem dX1_nextAbove_26 : decode cX1_nextAbove 26 = .ok (.iload 4, 2) := by decide +kernel
theorem dX1_nextAbove_28 : decode cX1_nextAbove 28 = .ok (.iload_n 2, 1) := by decide +kernel
theorem dX1_nextAbove_29 : decode cX1_nextAbove 29 = .ok (.if_icmp .ge 6, 3) := by decide +kernel
theorem dX1_nextAbove_32 : decode cX1_nextAbove 32 = .ok (.iload 4, 2) := by decide +kernel
theorem dX1_nextAbove_34 : decode cX1_nextAbove 34 = .ok (.istore_n 2, 1) := by decide +kernel
theorem dX1_nextAbove_35 : decode cX1_nextAbove 35 = .ok (.iinc 3 1, 3) := by decide +kernel
theorem dX1_nextAbove_38 : decode cX1_nextAbove 38 = .ok (.goto (-33), 3) := by decide +kernel
theorem dX1_nextAbove_41 : decode cX1_nextAbove 41 = .ok (.iload_n 2, 1) := by decide +kernel
theorem dX1_nextAbove_42 : decode cX1_nextAbove 42 = .ok (.ireturn, 1) := by decide +kernel
theorem dX1_mostPrices_0 : decode cX1_mostPrices 0 = .ok (.iconst 0, 1) := by decide +kernel
theorem dX1_mostPrices_1 : decode cX1_mostPrices 1 = .ok (.istore_n 3, 1) := by decide +kernel
theorem dX1_mostPrices_2 : decode cX1_mostPrices 2 = .ok (.iconst 0, 1) := by decide +kernel
theorem dX1_mostPrices_3 : decode cX1_mostPrices 3 = .ok (.istore 4, 2) := by decide +kernel
theorem dX1_mostPrices_5 : decode cX1_mostPrices 5 = .ok (.iload 4, 2) := by decide +kernel
theorem dX1_mostPrices_7 : decode cX1_mostPrices 7 = .ok (.aload_n 0, 1) := by decide +kernel
theorem dX1_mostPrices_8 : decode cX1_mostPrices 8 = .ok (.getfield 28, 3) := by decide +kernel
theorem dX1_mostPrices_11 : decode cX1_mostPrices 11 = .ok (.if_icmp .ge 40, 3) := by decide +kernel
theorem dX1_mostPrices_14 : decode cX1_mostPrices 14 = .ok (.aload_n 0, 1) := by decide +kernel
theorem dX1_mostPrices_15 : decode cX1_mostPrices 15 = .ok (.iload 4, 2) := by decide +kernel
theorem dX1_mostPrices_17 : decode cX1_mostPrices 17 = .ok (.invokevirtual 74, 3) := by decide +kernel
theorem dX1_mostPrices_20 : decode cX1_mostPrices 20 = .ok (.invokestatic 77, 3) := by decide +kernel
theorem dX1_mostPrices_23 : decode cX1_mostPrices 23 = .ok (.istore 5, 2) := by decide +kernel
theorem dX1_mostPrices_25 : decode cX1_mostPrices 25 = .ok (.iload 5, 2) := by decide +kernel
theorem dX1_mostPrices_27 : decode cX1_mostPrices 27 = .ok (.iload_n 2, 1) := by decide +kernel
theorem dX1_mostPrices_28 : decode cX1_mostPrices 28 = .ok (.iconst (-1), 1) := by decide +kernel
theorem dX1_mostPrices_29 : decode cX1_mostPrices 29 = .ok (.ixor, 1) := by decide +kernel
theorem dX1_mostPrices_30 : decode cX1_mostPrices 30 = .ok (.iand, 1) := by decide +kernel
theorem dX1_mostPrices_31 : decode cX1_mostPrices 31 = .ok (.ifCond .ne 14, 3) := by decide +kernel
theorem dX1_mostPrices_34 : decode cX1_mostPrices 34 = .ok (.iload_n 3, 1) := by decide +kernel
theorem dX1_mostPrices_35 : decode cX1_mostPrices 35 = .ok (.aload_n 1, 1) := by decide +kernel
theorem dX1_mostPrices_36 : decode cX1_mostPrices 36 = .ok (.iload 5, 2) := by decide +kernel
theorem dX1_mostPrices_38 : decode cX1_mostPrices 38 = .ok (.invokevirtual 83, 3) := by decide +kernel
theorem dX1_mostPrices_41 : decode cX1_mostPrices 41 = .ok (.invokestatic 86, 3) := by decide +kernel
theorem dX1_mostPrices_44 : decode cX1_mostPrices 44 = .ok (.istore_n 3, 1) := by decide +kernel
theorem dX1_mostPrices_45 : decode cX1_mostPrices 45 = .ok (.iinc 4 1, 3) := by decide +kernel
theorem dX1_mostPrices_48 : decode cX1_mostPrices 48 = .ok (.goto (-43), 3) := by decide +kernel
theorem dX1_mostPrices_51 : decode cX1_mostPrices 51 = .ok (.iload_n 3, 1) := by decide +kernel
theorem dX1_mostPrices_52 : decode cX1_mostPrices 52 = .ok (.ireturn, 1) := by decide +kernel
theorem dX2_init_0 : decode cX2_init 0 = .ok (.aload_n 0, 1) := by decide +kernel
theorem dX2_init_1 : decode cX2_init 1 = .ok (.invokespecial 3, 3) := by decide +kernel
theorem dX2_init_4 : decode cX2_init 4 = .ok (.aload_n 0, 1) := by decide +kernel
theorem dX2_init_5 : decode cX2_init 5 = .ok (.bipush 64, 2) := by decide +kernel
theorem dX2_init_7 : decode cX2_init 7 = .ok (.newarray .int, 2) := by decide +kernel
theorem dX2_init_9 : decode cX2_init 9 = .ok (.putfield 11, 3) := by decide +kernel
theorem dX2_init_12 : decode cX2_init 12 = .ok (.aload_n 0, 1) := by decide +kernel
theorem dX2_init_13 : decode cX2_init 13 = .ok (.iconst 0, 1) := by decide +kernel
theorem dX2_init_14 : decode cX2_init 14 = .ok (.putfield 15, 3) := by decide +kernel
theorem dX2_init_17 : decode cX2_init 17 = .ok (.return_, 1) := by decide +kernel
theorem dX2_signAt_0 : decode cX2_signAt 0 = .ok (.iload_n 1, 1) := by decide +kernel
theorem dX2_signAt_1 : decode cX2_signAt 1 = .ok (.ifCond .lt 26, 3) := by decide +kernel
theorem dX2_signAt_4 : decode cX2_signAt 4 = .ok (.iload_n 1, 1) := by decide +kernel
theorem dX2_signAt_5 : decode cX2_signAt 5 = .ok (.aload_n 0, 1) := by decide +kernel
theorem dX2_signAt_6 : decode cX2_signAt 6 = .ok (.getfield 15, 3) := by decide +kernel
theorem dX2_signAt_9 : decode cX2_signAt 9 = .ok (.if_icmp .ge 18, 3) := by decide +kernel
theorem dX2_signAt_12 : decode cX2_signAt 12 = .ok (.iload_n 1, 1) := by decide +kernel
theorem dX2_signAt_13 : decode cX2_signAt 13 = .ok (.bipush 64, 2) := by decide +kernel
theorem dX2_signAt_15 : decode cX2_signAt 15 = .ok (.if_icmp .ge 12, 3) := by decide +kernel
theorem dX2_signAt_18 : decode cX2_signAt 18 = .ok (.aload_n 0, 1) := by decide +kernel
theorem dX2_signAt_19 : decode cX2_signAt 19 = .ok (.getfield 11, 3) := by decide +kernel
theorem dX2_signAt_22 : decode cX2_signAt 22 = .ok (.iload_n 1, 1) := by decide +kernel
theorem dX2_signAt_23 : decode cX2_signAt 23 = .ok (.iaload, 1) := by decide +kernel
theorem dX2_signAt_24 : decode cX2_signAt 24 = .ok (.goto 5, 3) := by decide +kernel
theorem dX2_signAt_27 : decode cX2_signAt 27 = .ok (.bipush (-9), 2) := by decide +kernel
theorem dX2_signAt_29 : decode cX2_signAt 29 = .ok (.ireturn, 1) := by decide +kernel
theorem dX2_putWinners_0 : decode cX2_putWinners 0 = .ok (.aload_n 0, 1) := by decide +kernel
theorem dX2_putWinners_1 : decode cX2_putWinners 1 = .ok (.iconst 0, 1) := by decide +kernel
theorem dX2_putWinners_2 : decode cX2_putWinners 2 = .ok (.putfield 15, 3) := by decide +kernel
theorem dX2_putWinners_5 : decode cX2_putWinners 5 = .ok (.iconst 0, 1) := by decide +kernel
theorem dX2_putWinners_6 : decode cX2_putWinners 6 = .ok (.istore 4, 2) := by decide +kernel
theorem dX2_putWinners_8 : decode cX2_putWinners 8 = .ok (.iload 4, 2) := by decide +kernel
theorem dX2_putWinners_10 : decode cX2_putWinners 10 = .ok (.aload_n 1, 1) := by decide +kernel
theorem dX2_putWinners_11 : decode cX2_putWinners 11 = .ok (.getfield 19, 3) := by decide +kernel
theorem dX2_putWinners_14 : decode cX2_putWinners 14 = .ok (.if_icmp .ge 39, 3) := by decide +kernel
theorem dX2_putWinners_17 : decode cX2_putWinners 17 = .ok (.iload_n 2, 1) := by decide +kernel
theorem dX2_putWinners_18 : decode cX2_putWinners 18 = .ok (.iload 4, 2) := by decide +kernel
theorem dX2_putWinners_20 : decode cX2_putWinners 20 = .ok (.invokestatic 24, 3) := by decide +kernel
theorem dX2_putWinners_23 : decode cX2_putWinners 23 = .ok (.iconst 1, 1) := by decide +kernel
theorem dX2_putWinners_24 : decode cX2_putWinners 24 = .ok (.if_icmp .ne 23, 3) := by decide +kernel
theorem dX2_putWinners_27 : decode cX2_putWinners 27 = .ok (.aload_n 0, 1) := by decide +kernel
theorem dX2_putWinners_28 : decode cX2_putWinners 28 = .ok (.getfield 15, 3) := by decide +kernel
theorem dX2_putWinners_31 : decode cX2_putWinners 31 = .ok (.ifCond .le 9, 3) := by decide +kernel
theorem dX2_putWinners_34 : decode cX2_putWinners 34 = .ok (.aload_n 0, 1) := by decide +kernel
theorem dX2_putWinners_35 : decode cX2_putWinners 35 = .ok (.bipush 59, 2) := by decide +kernel
theorem dX2_putWinners_37 : decode cX2_putWinners 37 = .ok (.invokevirtual 28, 3) := by decide +kernel
theorem dX2_putWinners_40 : decode cX2_putWinners 40 = .ok (.aload_n 0, 1) := by decide +kernel
theorem dX2_putWinners_41 : decode cX2_putWinners 41 = .ok (.aload_n 1, 1) := by decide +kernel
theorem dX2_putWinners_42 : decode cX2_putWinners 42 = .ok (.iload 4, 2) := by decide +kernel
theorem dX2_putWinners_44 : decode cX2_putWinners 44 = .ok (.invokevirtual 32, 3) := by decide +kernel
theorem dX2_putWinners_47 : decode cX2_putWinners 47 = .ok (.iinc 4 1, 3) := by decide +kernel
theorem dX2_putWinners_50 : decode cX2_putWinners 50 = .ok (.goto (-42), 3) := by decide +kernel
theorem dX2_putWinners_53 : decode cX2_putWinners 53 = .ok (.aload_n 0, 1) := by decide +kernel
theorem dX2_putWinners_54 : decode cX2_putWinners 54 = .ok (.bipush 47, 2) := by decide +kernel
theorem dX2_putWinners_56 : decode cX2_putWinners 56 = .ok (.invokevirtual 28, 3) := by decide +kernel
theorem dX2_putWinners_59 : decode cX2_putWinners 59 = .ok (.aload_n 0, 1) := by decide +kernel
theorem dX2_putWinners_60 : decode cX2_putWinners 60 = .ok (.iload_n 3, 1) := by decide +kernel
theorem dX2_putWinners_61 : decode cX2_putWinners 61 = .ok (.invokevirtual 36, 3) := by decide +kernel
theorem dX2_putWinners_64 : decode cX2_putWinners 64 = .ok (.return_, 1) := by decide +kernel
theorem dX2_putBid_0 : decode cX2_putBid 0 = .ok (.aload_n 0, 1) := by decide +kernel
theorem dX2_putBid_1 : decode cX2_putBid 1 = .ok (.aload_n 1, 1) := by decide +kernel
theorem dX2_putBid_2 : decode cX2_putBid 2 = .ok (.iload_n 2, 1) := by decide +kernel
theorem dX2_putBid_3 : decode cX2_putBid 3 = .ok (.invokevirtual 39, 3) := by decide +kernel
theorem dX2_putBid_6 : decode cX2_putBid 6 = .ok (.invokevirtual 36, 3) := by decide +kernel
theorem dX2_putBid_9 : decode cX2_putBid 9 = .ok (.aload_n 0, 1) := by decide +kernel
theorem dX2_putBid_10 : decode cX2_putBid 10 = .ok (.bipush 58, 2) := by decide +kernel
theorem dX2_putBid_12 : decode cX2_putBid 12 = .ok (.invokevirtual 28, 3) := by decide +kernel
theorem dX2_putBid_15 : decode cX2_putBid 15 = .ok (.iconst 0, 1) := by decide +kernel
theorem dX2_putBid_16 : decode cX2_putBid 16 = .ok (.istore_n 3, 1) := by decide +kernel
theorem dX2_putBid_17 : decode cX2_putBid 17 = .ok (.iload_n 3, 1) := by decide +kernel
theorem dX2_putBid_18 : decode cX2_putBid 18 = .ok (.bipush 6, 2) := by decide +kernel
theorem dX2_putBid_20 : decode cX2_putBid 20 = .ok (.if_icmp .ge 30, 3) := by decide +kernel
theorem dX2_putBid_23 : decode cX2_putBid 23 = .ok (.aload_n 1, 1) := by decide +kernel
theorem dX2_putBid_24 : decode cX2_putBid 24 = .ok (.iload_n 2, 1) := by decide +kernel
theorem dX2_putBid_25 : decode cX2_putBid 25 = .ok (.invokevirtual 43, 3) := by decide +kernel
theorem dX2_putBid_28 : decode cX2_putBid 28 = .ok (.iload_n 3, 1) := by decide +kernel
theorem dX2_putBid_29 : decode cX2_putBid 29 = .ok (.invokestatic 24, 3) := by decide +kernel
theorem dX2_putBid_32 : decode cX2_putBid 32 = .ok (.iconst 1, 1) := by decide +kernel
theorem dX2_putBid_33 : decode cX2_putBid 33 = .ok (.if_icmp .ne 11, 3) := by decide +kernel
theorem dX2_putBid_36 : decode cX2_putBid 36 = .ok (.aload_n 0, 1) := by decide +kernel
theorem dX2_putBid_37 : decode cX2_putBid 37 = .ok (.bipush 97, 2) := by decide +kernel
theorem dX2_putBid_39 : decode cX2_putBid 39 = .ok (.iload_n 3, 1) := by decide +kernel
theorem dX2_putBid_40 : decode cX2_putBid 40 = .ok (.iadd, 1) := by decide +kernel
theorem dX2_putBid_41 : decode cX2_putBid 41 = .ok (.invokevirtual 28, 3) := by decide +kernel
theorem dX2_putBid_44 : decode cX2_putBid 44 = .ok (.iinc 3 1, 3) := by decide +kernel
theorem dX2_putBid_47 : decode cX2_putBid 47 = .ok (.goto (-30), 3) := by decide +kernel
theorem dX2_putBid_50 : decode cX2_putBid 50 = .ok (.aload_n 0, 1) := by decide +kernel
theorem dX2_putBid_51 : decode cX2_putBid 51 = .ok (.bipush 61, 2) := by decide +kernel
theorem dX2_putBid_53 : decode cX2_putBid 53 = .ok (.invokevirtual 28, 3) := by decide +kernel
theorem dX2_putBid_56 : decode cX2_putBid 56 = .ok (.aload_n 0, 1) := by decide +kernel
theorem dX2_putBid_57 : decode cX2_putBid 57 = .ok (.aload_n 1, 1) := by decide +kernel
theorem dX2_putBid_58 : decode cX2_putBid 58 = .ok (.iload_n 2, 1) := by decide +kernel
theorem dX2_putBid_59 : decode cX2_putBid 59 = .ok (.invokevirtual 46, 3) := by decide +kernel
theorem dX2_putBid_62 : decode cX2_putBid 62 = .ok (.invokevirtual 36, 3) := by decide +kernel
theorem dX2_putBid_65 : decode cX2_putBid 65 = .ok (.return_, 1) := by decide +kernel
theorem dX2_putNumber_0 : decode cX2_putNumber 0 = .ok (.iload_n 1, 1) := by decide +kernel
theorem dX2_putNumber_1 : decode cX2_putNumber 1 = .ok (.bipush 100, 2) := by decide +kernel
theorem dX2_putNumber_3 : decode cX2_putNumber 3 = .ok (.if_icmp .lt 14, 3) := by decide +kernel
theorem dX2_putNumber_6 : decode cX2_putNumber 6 = .ok (.aload_n 0, 1) := by decide +kernel
theorem dX2_putNumber_7 : decode cX2_putNumber 7 = .ok (.bipush 48, 2) := by decide +kernel
theorem dX2_putNumber_9 : decode cX2_putNumber 9 = .ok (.iload_n 1, 1) := by decide +kernel
theorem dX2_putNumber_10 : decode cX2_putNumber 10 = .ok (.bipush 100, 2) := by decide +kernel
theorem dX2_putNumber_12 : decode cX2_putNumber 12 = .ok (.idiv, 1) := by decide +kernel
theorem dX2_putNumber_13 : decode cX2_putNumber 13 = .ok (.iadd, 1) := by decide +kernel
theorem dX2_putNumber_14 : decode cX2_putNumber 14 = .ok (.invokevirtual 28, 3) := by decide +kernel
theorem dX2_putNumber_17 : decode cX2_putNumber 17 = .ok (.iload_n 1, 1) := by decide +kernel
theorem dX2_putNumber_18 : decode cX2_putNumber 18 = .ok (.bipush 10, 2) := by decide +kernel
theorem dX2_putNumber_20 : decode cX2_putNumber 20 = .ok (.if_icmp .lt 17, 3) := by decide +kernel
theorem dX2_putNumber_23 : decode cX2_putNumber 23 = .ok (.aload_n 0, 1) := by decide +kernel
theorem dX2_putNumber_24 : decode cX2_putNumber 24 = .ok (.bipush 48, 2) := by decide +kernel
theorem dX2_putNumber_26 : decode cX2_putNumber 26 = .ok (.iload_n 1, 1) := by decide +kernel
theorem dX2_putNumber_27 : decode cX2_putNumber 27 = .ok (.bipush 10, 2) := by decide +kernel
theorem dX2_putNumber_29 : decode cX2_putNumber 29 = .ok (.idiv, 1) := by decide +kernel
theorem dX2_putNumber_30 : decode cX2_putNumber 30 = .ok (.bipush 10, 2) := by decide +kernel
theorem dX2_putNumber_32 : decode cX2_putNumber 32 = .ok (.irem, 1) := by decide +kernel
theorem dX2_putNumber_33 : decode cX2_putNumber 33 = .ok (.iadd, 1) := by decide +kernel
theorem dX2_putNumber_34 : decode cX2_putNumber 34 = .ok (.invokevirtual 28, 3) := by decide +kernel
theorem dX2_putNumber_37 : decode cX2_putNumber 37 = .ok (.aload_n 0, 1) := by decide +kernel
theorem dX2_putNumber_38 : decode cX2_putNumber 38 = .ok (.bipush 48, 2) := by decide +kernel
theorem dX2_putNumber_40 : decode cX2_putNumber 40 = .ok (.iload_n 1, 1) := by decide +kernel
theorem dX2_putNumber_41 : decode cX2_putNumber 41 = .ok (.bipush 10, 2) := by decide +kernel
theorem dX2_putNumber_43 : decode cX2_putNumber 43 = .ok (.irem, 1) := by decide +kernel
theorem dX2_putNumber_44 : decode cX2_putNumber 44 = .ok (.iadd, 1) := by decide +kernel
theorem dX2_putNumber_45 : decode cX2_putNumber 45 = .ok (.invokevirtual 28, 3) := by decide +kernel
theorem dX2_putNumber_48 : decode cX2_putNumber 48 = .ok (.return_, 1) := by decide +kernel
theorem dX2_put_0 : decode cX2_put 0 = .ok (.aload_n 0, 1) := by decide +kernel
theorem dX2_put_1 : decode cX2_put 1 = .ok (.getfield 15, 3) := by decide +kernel
theorem dX2_put_4 : decode cX2_put 4 = .ok (.bipush 64, 2) := by decide +kernel
theorem dX2_put_6 : decode cX2_put 6 = .ok (.if_icmp .ge 23, 3) := by decide +kernel
theorem dX2_put_9 : decode cX2_put 9 = .ok (.aload_n 0, 1) := by decide +kernel
theorem dX2_put_10 : decode cX2_put 10 = .ok (.getfield 11, 3) := by decide +kernel
theorem dX2_put_13 : decode cX2_put 13 = .ok (.aload_n 0, 1) := by decide +kernel
theorem dX2_put_14 : decode cX2_put 14 = .ok (.getfield 15, 3) := by decide +kernel
theorem dX2_put_17 : decode cX2_put 17 = .ok (.iload_n 1, 1) := by decide +kernel
theorem dX2_put_18 : decode cX2_put 18 = .ok (.iastore, 1) := by decide +kernel
theorem dX2_put_19 : decode cX2_put 19 = .ok (.aload_n 0, 1) := by decide +kernel
theorem dX2_put_20 : decode cX2_put 20 = .ok (.dup, 1) := by decide +kernel
theorem dX2_put_21 : decode cX2_put 21 = .ok (.getfield 15, 3) := by decide +kernel
theorem dX2_put_24 : decode cX2_put 24 = .ok (.iconst 1, 1) := by decide +kernel
theorem dX2_put_25 : decode cX2_put 25 = .ok (.iadd, 1) := by decide +kernel
theorem dX2_put_26 : decode cX2_put 26 = .ok (.putfield 15, 3) := by decide +kernel
theorem dX2_put_29 : decode cX2_put 29 = .ok (.return_, 1) := by decide +kernel
theorem dX3_init_0 : decode cX3_init 0 = .ok (.aload_n 0, 1) := by decide +kernel
theorem dX3_init_1 : decode cX3_init 1 = .ok (.invokespecial 3, 3) := by decide +kernel
theorem dX3_init_4 : decode cX3_init 4 = .ok (.aload_n 0, 1) := by decide +kernel
theorem dX3_init_5 : decode cX3_init 5 = .ok (.bipush 10, 2) := by decide +kernel
theorem dX3_init_7 : decode cX3_init 7 = .ok (.newarray .int, 2) := by decide +kernel
theorem dX3_init_9 : decode cX3_init 9 = .ok (.putfield 9, 3) := by decide +kernel
theorem dX3_init_12 : decode cX3_init 12 = .ok (.aload_n 0, 1) := by decide +kernel
theorem dX3_init_13 : decode cX3_init 13 = .ok (.bipush 10, 2) := by decide +kernel
theorem dX3_init_15 : decode cX3_init 15 = .ok (.newarray .int, 2) := by decide +kernel
theorem dX3_init_17 : decode cX3_init 17 = .ok (.putfield 15, 3) := by decide +kernel
theorem dX3_init_20 : decode cX3_init 20 = .ok (.aload_n 0, 1) := by decide +kernel
theorem dX3_init_21 : decode cX3_init 21 = .ok (.bipush 10, 2) := by decide +kernel
theorem dX3_init_23 : decode cX3_init 23 = .ok (.newarray .int, 2) := by decide +kernel
theorem dX3_init_25 : decode cX3_init 25 = .ok (.putfield 18, 3) := by decide +kernel
theorem dX3_init_28 : decode cX3_init 28 = .ok (.aload_n 0, 1) := by decide +kernel
theorem dX3_init_29 : decode cX3_init 29 = .ok (.iconst 5, 1) := by decide +kernel
theorem dX3_init_30 : decode cX3_init 30 = .ok (.newarray .int, 2) := by decide +kernel
theorem dX3_init_32 : decode cX3_init 32 = .ok (.putfield 21, 3) := by decide +kernel
theorem dX3_init_35 : decode cX3_init 35 = .ok (.aload_n 0, 1) := by decide +kernel
theorem dX3_init_36 : decode cX3_init 36 = .ok (.iconst 5, 1) := by decide +kernel
theorem dX3_init_37 : decode cX3_init 37 = .ok (.newarray .int, 2) := by decide +kernel
theorem dX3_init_39 : decode cX3_init 39 = .ok (.putfield 24, 3) := by decide +kernel
theorem dX3_init_42 : decode cX3_init 42 = .ok (.aload_n 0, 1) := by decide +kernel
theorem dX3_init_43 : decode cX3_init 43 = .ok (.iconst 5, 1) := by decide +kernel
theorem dX3_init_44 : decode cX3_init 44 = .ok (.newarray .int, 2) := by decide +kernel
theorem dX3_init_46 : decode cX3_init 46 = .ok (.putfield 27, 3) := by decide +kernel
theorem dX3_init_49 : decode cX3_init 49 = .ok (.aload_n 0, 1) := by decide +kernel
theorem dX3_init_50 : decode cX3_init 50 = .ok (.bipush 6, 2) := by decide +kernel
theorem dX3_init_52 : decode cX3_init 52 = .ok (.newarray .int, 2) := by decide +kernel
theorem dX3_init_54 : decode cX3_init 54 = .ok (.putfield 30, 3) := by decide +kernel
theorem dX3_init_57 : decode cX3_init 57 = .ok (.aload_n 0, 1) := by decide +kernel
theorem dX3_init_58 : decode cX3_init 58 = .ok (.iconst 0, 1) := by decide +kernel
theorem dX3_init_59 : decode cX3_init 59 = .ok (.putfield 33, 3) := by decide +kernel
theorem dX3_init_62 : decode cX3_init 62 = .ok (.aload_n 0, 1) := by decide +kernel
theorem dX3_init_63 : decode cX3_init 63 = .ok (.iconst 0, 1) := by decide +kernel
theorem dX3_init_64 : decode cX3_init 64 = .ok (.putfield 37, 3) := by decide +kernel
theorem dX3_init_67 : decode cX3_init 67 = .ok (.return_, 1) := by decide +kernel
theorem dX3_takeFrom_0 : decode cX3_takeFrom 0 = .ok (.aload_n 1, 1) := by decide +kernel
theorem dX3_takeFrom_1 : decode cX3_takeFrom 1 = .ok (.getfield 9, 3) := by decide +kernel
theorem dX3_takeFrom_4 : decode cX3_takeFrom 4 = .ok (.iconst 0, 1) := by decide +kernel
theorem dX3_takeFrom_5 : decode cX3_takeFrom 5 = .ok (.aload_n 0, 1) := by decide +kernel
theorem dX3_takeFrom_6 : decode cX3_takeFrom 6 = .ok (.getfield 9, 3) := by decide +kernel
theorem dX3_takeFrom_9 : decode cX3_takeFrom 9 = .ok (.iconst 0, 1) := by decide +kernel
theorem dX3_takeFrom_10 : decode cX3_takeFrom 10 = .ok (.bipush 10, 2) := by decide +kernel
theorem dX3_takeFrom_12 : decode cX3_takeFrom 12 = .ok (.invokestatic 40, 3) := by decide +kernel
theorem dX3_takeFrom_15 : decode cX3_takeFrom 15 = .ok (.aload_n 1, 1) := by decide +kernel
theorem dX3_takeFrom_16 : decode cX3_takeFrom 16 = .ok (.getfield 15, 3) := by decide +kernel
theorem dX3_takeFrom_19 : decode cX3_takeFrom 19 = .ok (.iconst 0, 1) := by decide +kernel
theorem dX3_takeFrom_20 : decode cX3_takeFrom 20 = .ok (.aload_n 0, 1) := by decide +kernel
theorem dX3_takeFrom_21 : decode cX3_takeFrom 21 = .ok (.getfield 15, 3) := by decide +kernel
theorem dX3_takeFrom_24 : decode cX3_takeFrom 24 = .ok (.iconst 0, 1) := by decide +kernel
theorem dX3_takeFrom_25 : decode cX3_takeFrom 25 = .ok (.bipush 10, 2) := by decide +kernel
theorem dX3_takeFrom_27 : decode cX3_takeFrom 27 = .ok (.invokestatic 40, 3) := by decide +kernel
theorem dX3_takeFrom_30 : decode cX3_takeFrom 30 = .ok (.aload_n 1, 1) := by decide +kernel
theorem dX3_takeFrom_31 : decode cX3_takeFrom 31 = .ok (.getfield 18, 3) := by decide +kernel
theorem dX3_takeFrom_34 : decode cX3_takeFrom 34 = .ok (.iconst 0, 1) := by decide +kernel
theorem dX3_takeFrom_35 : decode cX3_takeFrom 35 = .ok (.aload_n 0, 1) := by decide +kernel
theorem dX3_takeFrom_36 : decode cX3_takeFrom 36 = .ok (.getfield 18, 3) := by decide +kernel
theorem dX3_takeFrom_39 : decode cX3_takeFrom 39 = .ok (.iconst 0, 1) := by decide +kernel
theorem dX3_takeFrom_40 : decode cX3_takeFrom 40 = .ok (.bipush 10, 2) := by decide +kernel
theorem dX3_takeFrom_42 : decode cX3_takeFrom 42 = .ok (.invokestatic 40, 3) := by decide +kernel
theorem dX3_takeFrom_45 : decode cX3_takeFrom 45 = .ok (.aload_n 1, 1) := by decide +kernel
theorem dX3_takeFrom_46 : decode cX3_takeFrom 46 = .ok (.getfield 21, 3) := by decide +kernel
theorem dX3_takeFrom_49 : decode cX3_takeFrom 49 = .ok (.iconst 0, 1) := by decide +kernel
theorem dX3_takeFrom_50 : decode cX3_takeFrom 50 = .ok (.aload_n 0, 1) := by decide +kernel
theorem dX3_takeFrom_51 : decode cX3_takeFrom 51 = .ok (.getfield 21, 3) := by decide +kernel
theorem dX3_takeFrom_54 : decode cX3_takeFrom 54 = .ok (.iconst 0, 1) := by decide +kernel
theorem dX3_takeFrom_55 : decode cX3_takeFrom 55 = .ok (.iconst 5, 1) := by decide +kernel
theorem dX3_takeFrom_56 : decode cX3_takeFrom 56 = .ok (.invokestatic 40, 3) := by decide +kernel
theorem dX3_takeFrom_59 : decode cX3_takeFrom 59 = .ok (.aload_n 1, 1) := by decide +kernel
theorem dX3_takeFrom_60 : decode cX3_takeFrom 60 = .ok (.getfield 24, 3) := by decide +kernel
theorem dX3_takeFrom_63 : decode cX3_takeFrom 63 = .ok (.iconst 0, 1) := by decide +kernel
theorem dX3_takeFrom_64 : decode cX3_takeFrom 64 = .ok (.aload_n 0, 1) := by decide +kernel
theorem dX3_takeFrom_65 : decode cX3_takeFrom 65 = .ok (.getfield 24, 3) := by decide +kernel
theorem dX3_takeFrom_68 : decode cX3_takeFrom 68 = .ok (.iconst 0, 1) := by decide +kernel
theorem dX3_takeFrom_69 : decode cX3_takeFrom 69 = .ok (.iconst 5, 1) := by decide +kernel
theorem dX3_takeFrom_70 : decode cX3_takeFrom 70 = .ok (.invokestatic 40, 3) := by decide +kernel
theorem dX3_takeFrom_73 : decode cX3_takeFrom 73 = .ok (.aload_n 1, 1) := by decide +kernel
theorem dX3_takeFrom_74 : decode cX3_takeFrom 74 = .ok (.getfield 27, 3) := by decide +kernel
theorem dX3_takeFrom_77 : decode cX3_takeFrom 77 = .ok (.iconst 0, 1) := by decide +kernel
theorem dX3_takeFrom_78 : decode cX3_takeFrom 78 = .ok (.aload_n 0, 1) := by decide +kernel
theorem dX3_takeFrom_79 : decode cX3_takeFrom 79 = .ok (.getfield 27, 3) := by decide +kernel
theorem dX3_takeFrom_82 : decode cX3_takeFrom 82 = .ok (.iconst 0, 1) := by decide +kernel
theorem dX3_takeFrom_83 : decode cX3_takeFrom 83 = .ok (.iconst 5, 1) := by decide +kernel
theorem dX3_takeFrom_84 : decode cX3_takeFrom 84 = .ok (.invokestatic 40, 3) := by decide +kernel
theorem dX3_takeFrom_87 : decode cX3_takeFrom 87 = .ok (.aload_n 1, 1) := by decide +kernel
theorem dX3_takeFrom_88 : decode cX3_takeFrom 88 = .ok (.getfield 30, 3) := by decide +kernel
theorem dX3_takeFrom_91 : decode cX3_takeFrom 91 = .ok (.iconst 0, 1) := by decide +kernel
theorem dX3_takeFrom_92 : decode cX3_takeFrom 92 = .ok (.aload_n 0, 1) := by decide +kernel
theorem dX3_takeFrom_93 : decode cX3_takeFrom 93 = .ok (.getfield 30, 3) := by decide +kernel
theorem dX3_takeFrom_96 : decode cX3_takeFrom 96 = .ok (.iconst 0, 1) := by decide +kernel
theorem dX3_takeFrom_97 : decode cX3_takeFrom 97 = .ok (.bipush 6, 2) := by decide +kernel
theorem dX3_takeFrom_99 : decode cX3_takeFrom 99 = .ok (.invokestatic 40, 3) := by decide +kernel
theorem dX3_takeFrom_102 : decode cX3_takeFrom 102 = .ok (.aload_n 0, 1) := by decide +kernel
theorem dX3_takeFrom_103 : decode cX3_takeFrom 103 = .ok (.aload_n 1, 1) := by decide +kernel
theorem dX3_takeFrom_104 : decode cX3_takeFrom 104 = .ok (.getfield 33, 3) := by decide +kernel
theorem dX3_takeFrom_107 : decode cX3_takeFrom 107 = .ok (.putfield 33, 3) := by decide +kernel
theorem dX3_takeFrom_110 : decode cX3_takeFrom 110 = .ok (.aload_n 0, 1) := by decide +kernel
theorem dX3_takeFrom_111 : decode cX3_takeFrom 111 = .ok (.aload_n 1, 1) := by decide +kernel
theorem dX3_takeFrom_112 : decode cX3_takeFrom 112 = .ok (.getfield 37, 3) := by decide +kernel
theorem dX3_takeFrom_115 : decode cX3_takeFrom 115 = .ok (.putfield 37, 3) := by decide +kernel
theorem dX3_takeFrom_118 : decode cX3_takeFrom 118 = .ok (.return_, 1) := by decide +kernel
theorem dX3_isFull_0 : decode cX3_isFull 0 = .ok (.aload_n 0, 1) := by decide +kernel
theorem dX3_isFull_1 : decode cX3_isFull 1 = .ok (.getfield 33, 3) := by decide +kernel
theorem dX3_isFull_4 : decode cX3_isFull 4 = .ok (.bipush 10, 2) := by decide +kernel
theorem dX3_isFull_6 : decode cX3_isFull 6 = .ok (.if_icmp .lt 7, 3) := by decide +kernel
theorem dX3_isFull_9 : decode cX3_isFull 9 = .ok (.iconst 1, 1) := by decide +kernel
theorem dX3_isFull_10 : decode cX3_isFull 10 = .ok (.goto 4, 3) := by decide +kernel
theorem dX3_isFull_13 : decode cX3_isFull 13 = .ok (.iconst 0, 1) := by decide +kernel
theorem dX3_isFull_14 : decode cX3_isFull 14 = .ok (.ireturn, 1) := by decide +kernel
theorem dX3_hasBid_0 : decode cX3_hasBid 0 = .ok (.iload_n 1, 1) := by decide +kernel
theorem dX3_hasBid_1 : decode cX3_hasBid 1 = .ok (.ifCond .lt 21, 3) := by decide +kernel
theorem dX3_hasBid_4 : decode cX3_hasBid 4 = .ok (.iload_n 1, 1) := by decide +kernel
theorem dX3_hasBid_5 : decode cX3_hasBid 5 = .ok (.aload_n 0, 1) := by decide +kernel
theorem dX3_hasBid_6 : decode cX3_hasBid 6 = .ok (.getfield 33, 3) := by decide +kernel
theorem dX3_hasBid_9 : decode cX3_hasBid 9 = .ok (.if_icmp .ge 13, 3) := by decide +kernel
theorem dX3_hasBid_12 : decode cX3_hasBid 12 = .ok (.iload_n 1, 1) := by decide +kernel
theorem dX3_hasBid_13 : decode cX3_hasBid 13 = .ok (.bipush 10, 2) := by decide +kernel
theorem dX3_hasBid_15 : decode cX3_hasBid 15 = .ok (.if_icmp .ge 7, 3) := by decide +kernel
theorem dX3_hasBid_18 : decode cX3_hasBid 18 = .ok (.iconst 1, 1) := by decide +kernel
theorem dX3_hasBid_19 : decode cX3_hasBid 19 = .ok (.goto 4, 3) := by decide +kernel
theorem dX3_hasBid_22 : decode cX3_hasBid 22 = .ok (.iconst 0, 1) := by decide +kernel
theorem dX3_hasBid_23 : decode cX3_hasBid 23 = .ok (.ireturn, 1) := by decide +kernel
theorem dX3_bidderOf_0 : decode cX3_bidderOf 0 = .ok (.aload_n 0, 1) := by decide +kernel
theorem dX3_bidderOf_1 : decode cX3_bidderOf 1 = .ok (.iload_n 1, 1) := by decide +kernel
theorem dX3_bidderOf_2 : decode cX3_bidderOf 2 = .ok (.invokevirtual 46, 3) := by decide +kernel
theorem dX3_bidderOf_5 : decode cX3_bidderOf 5 = .ok (.ifCond .eq 12, 3) := by decide +kernel
theorem dX3_bidderOf_8 : decode cX3_bidderOf 8 = .ok (.aload_n 0, 1) := by decide +kernel
theorem dX3_bidderOf_9 : decode cX3_bidderOf 9 = .ok (.getfield 9, 3) := by decide +kernel
theorem dX3_bidderOf_12 : decode cX3_bidderOf 12 = .ok (.iload_n 1, 1) := by decide +kernel
theorem dX3_bidderOf_13 : decode cX3_bidderOf 13 = .ok (.iaload, 1) := by decide +kernel
theorem dX3_bidderOf_14 : decode cX3_bidderOf 14 = .ok (.goto 5, 3) := by decide +kernel
theorem dX3_bidderOf_17 : decode cX3_bidderOf 17 = .ok (.bipush (-9), 2) := by decide +kernel
theorem dX3_bidderOf_19 : decode cX3_bidderOf 19 = .ok (.ireturn, 1) := by decide +kernel
theorem dX3_setOf_0 : decode cX3_setOf 0 = .ok (.aload_n 0, 1) := by decide +kernel
theorem dX3_setOf_1 : decode cX3_setOf 1 = .ok (.iload_n 1, 1) := by decide +kernel
theorem dX3_setOf_2 : decode cX3_setOf 2 = .ok (.invokevirtual 46, 3) := by decide +kernel
theorem dX3_setOf_5 : decode cX3_setOf 5 = .ok (.ifCond .eq 12, 3) := by decide +kernel
theorem dX3_setOf_8 : decode cX3_setOf 8 = .ok (.aload_n 0, 1) := by decide +kernel
theorem dX3_setOf_9 : decode cX3_setOf 9 = .ok (.getfield 15, 3) := by decide +kernel
theorem dX3_setOf_12 : decode cX3_setOf 12 = .ok (.iload_n 1, 1) := by decide +kernel
theorem dX3_setOf_13 : decode cX3_setOf 13 = .ok (.iaload, 1) := by decide +kernel
theorem dX3_setOf_14 : decode cX3_setOf 14 = .ok (.goto 4, 3) := by decide +kernel
theorem dX3_setOf_17 : decode cX3_setOf 17 = .ok (.iconst 0, 1) := by decide +kernel
theorem dX3_setOf_18 : decode cX3_setOf 18 = .ok (.ireturn, 1) := by decide +kernel
theorem dX3_priceOf_0 : decode cX3_priceOf 0 = .ok (.aload_n 0, 1) := by decide +kernel
theorem dX3_priceOf_1 : decode cX3_priceOf 1 = .ok (.iload_n 1, 1) := by decide +kernel
theorem dX3_priceOf_2 : decode cX3_priceOf 2 = .ok (.invokevirtual 46, 3) := by decide +kernel
theorem dX3_priceOf_5 : decode cX3_priceOf 5 = .ok (.ifCond .eq 12, 3) := by decide +kernel
theorem dX3_priceOf_8 : decode cX3_priceOf 8 = .ok (.aload_n 0, 1) := by decide +kernel
theorem dX3_priceOf_9 : decode cX3_priceOf 9 = .ok (.getfield 18, 3) := by decide +kernel
theorem dX3_priceOf_12 : decode cX3_priceOf 12 = .ok (.iload_n 1, 1) := by decide +kernel
theorem dX3_priceOf_13 : decode cX3_priceOf 13 = .ok (.iaload, 1) := by decide +kernel
theorem dX3_priceOf_14 : decode cX3_priceOf 14 = .ok (.goto 4, 3) := by decide +kernel
theorem dX3_priceOf_17 : decode cX3_priceOf 17 = .ok (.iconst 0, 1) := by decide +kernel
theorem dX3_priceOf_18 : decode cX3_priceOf 18 = .ok (.ireturn, 1) := by decide +kernel
theorem dX3_kindOf_0 : decode cX3_kindOf 0 = .ok (.iload_n 1, 1) := by decide +kernel
theorem dX3_kindOf_1 : decode cX3_kindOf 1 = .ok (.invokestatic 50, 3) := by decide +kernel
theorem dX3_kindOf_4 : decode cX3_kindOf 4 = .ok (.ifCond .eq 12, 3) := by decide +kernel
theorem dX3_kindOf_7 : decode cX3_kindOf 7 = .ok (.aload_n 0, 1) := by decide +kernel
theorem dX3_kindOf_8 : decode cX3_kindOf 8 = .ok (.getfield 24, 3) := by decide +kernel
theorem dX3_kindOf_11 : decode cX3_kindOf 11 = .ok (.iload_n 1, 1) := by decide +kernel
theorem dX3_kindOf_12 : decode cX3_kindOf 12 = .ok (.iaload, 1) := by decide +kernel
theorem dX3_kindOf_13 : decode cX3_kindOf 13 = .ok (.goto 4, 3) := by decide +kernel
theorem dX3_kindOf_16 : decode cX3_kindOf 16 = .ok (.iconst 0, 1) := by decide +kernel
theorem dX3_kindOf_17 : decode cX3_kindOf 17 = .ok (.ireturn, 1) := by decide +kernel
theorem dX3_figureOf_0 : decode cX3_figureOf 0 = .ok (.iload_n 1, 1) := by decide +kernel
theorem dX3_figureOf_1 : decode cX3_figureOf 1 = .ok (.invokestatic 50, 3) := by decide +kernel
theorem dX3_figureOf_4 : decode cX3_figureOf 4 = .ok (.ifCond .eq 12, 3) := by decide +kernel
theorem dX3_figureOf_7 : decode cX3_figureOf 7 = .ok (.aload_n 0, 1) := by decide +kernel
theorem dX3_figureOf_8 : decode cX3_figureOf 8 = .ok (.getfield 27, 3) := by decide +kernel
theorem dX3_figureOf_11 : decode cX3_figureOf 11 = .ok (.iload_n 1, 1) := by decide +kernel
theorem dX3_figureOf_12 : decode cX3_figureOf 12 = .ok (.iaload, 1) := by decide +kernel
theorem dX3_figureOf_13 : decode cX3_figureOf 13 = .ok (.goto 4, 3) := by decide +kernel
theorem dX3_figureOf_16 : decode cX3_figureOf 16 = .ok (.iconst 0, 1) := by decide +kernel
theorem dX3_figureOf_17 : decode cX3_figureOf 17 = .ok (.ireturn, 1) := by decide +kernel
theorem dX3_reserveOf_0 : decode cX3_reserveOf 0 = .ok (.iload_n 1, 1) := by decide +kernel
theorem dX3_reserveOf_1 : decode cX3_reserveOf 1 = .ok (.invokestatic 53, 3) := by decide +kernel
theorem dX3_reserveOf_4 : decode cX3_reserveOf 4 = .ok (.ifCond .eq 12, 3) := by decide +kernel
theorem dX3_reserveOf_7 : decode cX3_reserveOf 7 = .ok (.aload_n 0, 1) := by decide +kernel
theorem dX3_reserveOf_8 : decode cX3_reserveOf 8 = .ok (.getfield 30, 3) := by decide +kernel
theorem dX3_reserveOf_11 : decode cX3_reserveOf 11 = .ok (.iload_n 1, 1) := by decide +kernel
theorem dX3_reserveOf_12 : decode cX3_reserveOf 12 = .ok (.iaload, 1) := by decide +kernel
theorem dX3_reserveOf_13 : decode cX3_reserveOf 13 = .ok (.goto 4, 3) := by decide +kernel
theorem dX3_reserveOf_16 : decode cX3_reserveOf 16 = .ok (.iconst 0, 1) := by decide +kernel
theorem dX3_reserveOf_17 : decode cX3_reserveOf 17 = .ok (.ireturn, 1) := by decide +kernel
theorem dX3_addBid_0 : decode cX3_addBid 0 = .ok (.aload_n 0, 1) := by decide +kernel
theorem dX3_addBid_1 : decode cX3_addBid 1 = .ok (.invokevirtual 56, 3) := by decide +kernel
theorem dX3_addBid_4 : decode cX3_addBid 4 = .ok (.ifCond .ne 10, 3) := by decide +kernel
theorem dX3_addBid_7 : decode cX3_addBid 7 = .ok (.iload_n 1, 1) := by decide +kernel
theorem dX3_addBid_8 : decode cX3_addBid 8 = .ok (.invokestatic 50, 3) := by decide +kernel
theorem dX3_addBid_11 : decode cX3_addBid 11 = .ok (.ifCond .ne 4, 3) := by decide +kernel
theorem dX3_addBid_14 : decode cX3_addBid 14 = .ok (.return_, 1) := by decide +kernel
theorem dX3_addBid_15 : decode cX3_addBid 15 = .ok (.aload_n 0, 1) := by decide +kernel
theorem dX3_addBid_16 : decode cX3_addBid 16 = .ok (.getfield 9, 3) := by decide +kernel
theorem dX3_addBid_19 : decode cX3_addBid 19 = .ok (.aload_n 0, 1) := by decide +kernel
theorem dX3_addBid_20 : decode cX3_addBid 20 = .ok (.getfield 33, 3) := by decide +kernel
theorem dX3_addBid_23 : decode cX3_addBid 23 = .ok (.iload_n 1, 1) := by decide +kernel
theorem dX3_addBid_24 : decode cX3_addBid 24 = .ok (.iastore, 1) := by decide +kernel
theorem dX3_addBid_25 : decode cX3_addBid 25 = .ok (.aload_n 0, 1) := by decide +kernel
theorem dX3_addBid_26 : decode cX3_addBid 26 = .ok (.getfield 15, 3) := by decide +kernel
theorem dX3_addBid_29 : decode cX3_addBid 29 = .ok (.aload_n 0, 1) := by decide +kernel
theorem dX3_addBid_30 : decode cX3_addBid 30 = .ok (.getfield 33, 3) := by decide +kernel
theorem dX3_addBid_33 : decode cX3_addBid 33 = .ok (.iload_n 2, 1) := by decide +kernel
theorem dX3_addBid_34 : decode cX3_addBid 34 = .ok (.iastore, 1) := by decide +kernel
theorem dX3_addBid_35 : decode cX3_addBid 35 = .ok (.aload_n 0, 1) := by decide +kernel
theorem dX3_addBid_36 : decode cX3_addBid 36 = .ok (.getfield 18, 3) := by decide +kernel
theorem dX3_addBid_39 : decode cX3_addBid 39 = .ok (.aload_n 0, 1) := by decide +kernel
theorem dX3_addBid_40 : decode cX3_addBid 40 = .ok (.getfield 33, 3) := by decide +kernel
theorem dX3_addBid_43 : decode cX3_addBid 43 = .ok (.iload_n 3, 1) := by decide +kernel
theorem dX3_addBid_44 : decode cX3_addBid 44 = .ok (.iastore, 1) := by decide +kernel
theorem dX3_addBid_45 : decode cX3_addBid 45 = .ok (.aload_n 0, 1) := by decide +kernel
theorem dX3_addBid_46 : decode cX3_addBid 46 = .ok (.getfield 21, 3) := by decide +kernel
theorem dX3_addBid_49 : decode cX3_addBid 49 = .ok (.iload_n 1, 1) := by decide +kernel
theorem dX3_addBid_50 : decode cX3_addBid 50 = .ok (.dup2, 1) := by decide +kernel
theorem dX3_addBid_51 : decode cX3_addBid 51 = .ok (.iaload, 1) := by decide +kernel
theorem dX3_addBid_52 : decode cX3_addBid 52 = .ok (.iconst 1, 1) := by decide +kernel
theorem dX3_addBid_53 : decode cX3_addBid 53 = .ok (.aload_n 0, 1) := by decide +kernel
theorem dX3_addBid_54 : decode cX3_addBid 54 = .ok (.getfield 33, 3) := by decide +kernel
theorem dX3_addBid_57 : decode cX3_addBid 57 = .ok (.ishl, 1) := by decide +kernel
theorem dX3_addBid_58 : decode cX3_addBid 58 = .ok (.ior, 1) := by decide +kernel
theorem dX3_addBid_59 : decode cX3_addBid 59 = .ok (.iastore, 1) := by decide +kernel
theorem dX3_addBid_60 : decode cX3_addBid 60 = .ok (.aload_n 0, 1) := by decide +kernel
theorem dX3_addBid_61 : decode cX3_addBid 61 = .ok (.dup, 1) := by decide +kernel
theorem dX3_addBid_62 : decode cX3_addBid 62 = .ok (.getfield 37, 3) := by decide +kernel
theorem dX3_addBid_65 : decode cX3_addBid 65 = .ok (.iconst 1, 1) := by decide +kernel
theorem dX3_addBid_66 : decode cX3_addBid 66 = .ok (.aload_n 0, 1) := by decide +kernel
theorem dX3_addBid_67 : decode cX3_addBid 67 = .ok (.getfield 33, 3) := by decide +kernel
theorem dX3_addBid_70 : decode cX3_addBid 70 = .ok (.ishl, 1) := by decide +kernel
theorem dX3_addBid_71 : decode cX3_addBid 71 = .ok (.ior, 1) := by decide +kernel
theorem dX3_addBid_72 : decode cX3_addBid 72 = .ok (.putfield 37, 3) := by decide +kernel
theorem dX3_addBid_75 : decode cX3_addBid 75 = .ok (.aload_n 0, 1) := by decide +kernel
theorem dX3_addBid_76 : decode cX3_addBid 76 = .ok (.dup, 1) := by decide +kernel
theorem dX3_addBid_77 : decode cX3_addBid 77 = .ok (.getfield 33, 3) := by decide +kernel
theorem dX3_addBid_80 : decode cX3_addBid 80 = .ok (.iconst 1, 1) := by decide +kernel
theorem dX3_addBid_81 : decode cX3_addBid 81 = .ok (.iadd, 1) := by decide +kernel
theorem dX3_addBid_82 : decode cX3_addBid 82 = .ok (.putfield 33, 3) := by decide +kernel
theorem dX3_addBid_85 : decode cX3_addBid 85 = .ok (.return_, 1) := by decide +kernel
theorem dX3_turnOver_0 : decode cX3_turnOver 0 = .ok (.aload_n 0, 1) := by decide +kernel
theorem dX3_turnOver_1 : decode cX3_turnOver 1 = .ok (.iload_n 1, 1) := by decide +kernel
theorem dX3_turnOver_2 : decode cX3_turnOver 2 = .ok (.invokevirtual 46, 3) := by decide +kernel
theorem dX3_turnOver_5 : decode cX3_turnOver 5 = .ok (.ifCond .eq 15, 3) := by decide +kernel
theorem dX3_turnOver_8 : decode cX3_turnOver 8 = .ok (.aload_n 0, 1) := by decide +kernel
theorem dX3_turnOver_9 : decode cX3_turnOver 9 = .ok (.dup, 1) := by decide +kernel
theorem dX3_turnOver_10 : decode cX3_turnOver 10 = .ok (.getfield 37, 3) := by decide +kernel
theorem dX3_turnOver_13 : decode cX3_turnOver 13 = .ok (.iconst 1, 1) := by decide +kernel
theorem dX3_turnOver_14 : decode cX3_turnOver 14 = .ok (.iload_n 1, 1) := by decide +kernel
theorem dX3_turnOver_15 : decode cX3_turnOver 15 = .ok (.ishl, 1) := by decide +kernel
theorem dX3_turnOver_16 : decode cX3_turnOver 16 = .ok (.ixor, 1) := by decide +kernel
theorem dX3_turnOver_17 : decode cX3_turnOver 17 = .ok (.putfield 37, 3) := by decide +kernel
theorem dX3_turnOver_20 : decode cX3_turnOver 20 = .ok (.return_, 1) := by decide +kernel
theorem dX3_setPrice_0 : decode cX3_setPrice 0 = .ok (.aload_n 0, 1) := by decide +kernel
theorem dX3_setPrice_1 : decode cX3_setPrice 1 = .ok (.iload_n 1, 1) := by decide +kernel
theorem dX3_setPrice_2 : decode cX3_setPrice 2 = .ok (.invokevirtual 46, 3) := by decide +kernel
theorem dX3_setPrice_5 : decode cX3_setPrice 5 = .ok (.ifCond .eq 10, 3) := by decide +kernel
theorem dX3_setPrice_8 : decode cX3_setPrice 8 = .ok (.aload_n 0, 1) := by decide +kernel
theorem dX3_setPrice_9 : decode cX3_setPrice 9 = .ok (.getfield 18, 3) := by decide +kernel
theorem dX3_setPrice_12 : decode cX3_setPrice 12 = .ok (.iload_n 1, 1) := by decide +kernel
theorem dX3_setPrice_13 : decode cX3_setPrice 13 = .ok (.iload_n 2, 1) := by decide +kernel
theorem dX3_setPrice_14 : decode cX3_setPrice 14 = .ok (.iastore, 1) := by decide +kernel
theorem dX3_setPrice_15 : decode cX3_setPrice 15 = .ok (.return_, 1) := by decide +kernel
theorem dX3_setKind_0 : decode cX3_setKind 0 = .ok (.iload_n 1, 1) := by decide +kernel
theorem dX3_setKind_1 : decode cX3_setKind 1 = .ok (.invokestatic 50, 3) := by decide +kernel
theorem dX3_setKind_4 : decode cX3_setKind 4 = .ok (.ifCond .eq 17, 3) := by decide +kernel
theorem dX3_setKind_7 : decode cX3_setKind 7 = .ok (.aload_n 0, 1) := by decide +kernel
theorem dX3_setKind_8 : decode cX3_setKind 8 = .ok (.getfield 24, 3) := by decide +kernel
theorem dX3_setKind_11 : decode cX3_setKind 11 = .ok (.iload_n 1, 1) := by decide +kernel
theorem dX3_setKind_12 : decode cX3_setKind 12 = .ok (.iload_n 2, 1) := by decide +kernel
theorem dX3_setKind_13 : decode cX3_setKind 13 = .ok (.iastore, 1) := by decide +kernel
theorem dX3_setKind_14 : decode cX3_setKind 14 = .ok (.aload_n 0, 1) := by decide +kernel
theorem dX3_setKind_15 : decode cX3_setKind 15 = .ok (.getfield 27, 3) := by decide +kernel
theorem dX3_setKind_18 : decode cX3_setKind 18 = .ok (.iload_n 1, 1) := by decide +kernel
theorem dX3_setKind_19 : decode cX3_setKind 19 = .ok (.iload_n 3, 1) := by decide +kernel
theorem dX3_setKind_20 : decode cX3_setKind 20 = .ok (.iastore, 1) := by decide +kernel
theorem dX3_setKind_21 : decode cX3_setKind 21 = .ok (.return_, 1) := by decide +kernel
theorem dX3_setReserve_0 : decode cX3_setReserve 0 = .ok (.iload_n 1, 1) := by decide +kernel
theorem dX3_setReserve_1 : decode cX3_setReserve 1 = .ok (.invokestatic 53, 3) := by decide +kernel
theorem dX3_setReserve_4 : decode cX3_setReserve 4 = .ok (.ifCond .eq 10, 3) := by decide +kernel
theorem dX3_setReserve_7 : decode cX3_setReserve 7 = .ok (.aload_n 0, 1) := by decide +kernel
theorem dX3_setReserve_8 : decode cX3_setReserve 8 = .ok (.getfield 30, 3) := by decide +kernel
theorem dX3_setReserve_11 : decode cX3_setReserve 11 = .ok (.iload_n 1, 1) := by decide +kernel
theorem dX3_setReserve_12 : decode cX3_setReserve 12 = .ok (.iload_n 2, 1) := by decide +kernel
theorem dX3_setReserve_13 : decode cX3_setReserve 13 = .ok (.iastore, 1) := by decide +kernel
theorem dX3_setReserve_14 : decode cX3_setReserve 14 = .ok (.return_, 1) := by decide +kernel
theorem dX3_bidsOfGroup_0 : decode cX3_bidsOfGroup 0 = .ok (.iconst 0, 1) := by decide +kernel
theorem dX3_bidsOfGroup_1 : decode cX3_bidsOfGroup 1 = .ok (.istore_n 2, 1) := by decide +kernel
theorem dX3_bidsOfGroup_2 : decode cX3_bidsOfGroup 2 = .ok (.iconst 0, 1) := by decide +kernel
theorem dX3_bidsOfGroup_3 : decode cX3_bidsOfGroup 3 = .ok (.istore_n 3, 1) := by decide +kernel
theorem dX3_bidsOfGroup_4 : decode cX3_bidsOfGroup 4 = .ok (.iload_n 3, 1) := by decide +kernel
theorem dX3_bidsOfGroup_5 : decode cX3_bidsOfGroup 5 = .ok (.iconst 5, 1) := by decide +kernel
theorem dX3_bidsOfGroup_6 : decode cX3_bidsOfGroup 6 = .ok (.if_icmp .ge 27, 3) := by decide +kernel
theorem dX3_bidsOfGroup_9 : decode cX3_bidsOfGroup 9 = .ok (.iload_n 1, 1) := by decide +kernel
theorem dX3_bidsOfGroup_10 : decode cX3_bidsOfGroup 10 = .ok (.iload_n 3, 1) := by decide +kernel
theorem dX3_bidsOfGroup_11 : decode cX3_bidsOfGroup 11 = .ok (.invokestatic 60, 3) := by decide +kernel
theorem dX3_bidsOfGroup_14 : decode cX3_bidsOfGroup 14 = .ok (.iconst 1, 1) := by decide +kernel
theorem dX3_bidsOfGroup_15 : decode cX3_bidsOfGroup 15 = .ok (.if_icmp .ne 12, 3) := by decide +kernel
theorem dX3_bidsOfGroup_18 : decode cX3_bidsOfGroup 18 = .ok (.iload_n 2, 1) := by decide +kernel
theorem dX3_bidsOfGroup_19 : decode cX3_bidsOfGroup 19 = .ok (.aload_n 0, 1) := by decide +kernel
theorem dX3_bidsOfGroup_20 : decode cX3_bidsOfGroup 20 = .ok (.getfield 21, 3) := by decide +kernel
theorem dX3_bidsOfGroup_23 : decode cX3_bidsOfGroup 23 = .ok (.iload_n 3, 1) := by decide +kernel
theorem dX3_bidsOfGroup_24 : decode cX3_bidsOfGroup 24 = .ok (.iaload, 1) := by decide +kernel
theorem dX3_bidsOfGroup_25 : decode cX3_bidsOfGroup 25 = .ok (.ior, 1) := by decide +kernel
theorem dX3_bidsOfGroup_26 : decode cX3_bidsOfGroup 26 = .ok (.istore_n 2, 1) := by decide +kernel
theorem dX3_bidsOfGroup_27 : decode cX3_bidsOfGroup 27 = .ok (.iinc 3 1, 3) := by decide +kernel
theorem dX3_bidsOfGroup_30 : decode cX3_bidsOfGroup 30 = .ok (.goto (-26), 3) := by decide +kernel
theorem dX3_bidsOfGroup_33 : decode cX3_bidsOfGroup 33 = .ok (.iload_n 2, 1) := by decide +kernel
theorem dX3_bidsOfGroup_34 : decode cX3_bidsOfGroup 34 = .ok (.ireturn, 1) := by decide +kernel
theorem dX3_pricesOf_0 : decode cX3_pricesOf 0 = .ok (.iconst 0, 1) := by decide +kernel
theorem dX3_pricesOf_1 : decode cX3_pricesOf 1 = .ok (.istore_n 2, 1) := by decide +kernel
theorem dX3_pricesOf_2 : decode cX3_pricesOf 2 = .ok (.iconst 0, 1) := by decide +kernel
theorem dX3_pricesOf_3 : decode cX3_pricesOf 3 = .ok (.istore_n 3, 1) := by decide +kernel
theorem dX3_pricesOf_4 : decode cX3_pricesOf 4 = .ok (.iload_n 3, 1) := by decide +kernel
theorem dX3_pricesOf_5 : decode cX3_pricesOf 5 = .ok (.aload_n 0, 1) := by decide +kernel
theorem dX3_pricesOf_6 : decode cX3_pricesOf 6 = .ok (.getfield 33, 3) := by decide +kernel
theorem dX3_pricesOf_9 : decode cX3_pricesOf 9 = .ok (.if_icmp .ge 32, 3) := by decide +kernel
theorem dX3_pricesOf_12 : decode cX3_pricesOf 12 = .ok (.iload_n 3, 1) := by decide +kernel
theorem dX3_pricesOf_13 : decode cX3_pricesOf 13 = .ok (.bipush 10, 2) := by decide +kernel
theorem dX3_pricesOf_15 : decode cX3_pricesOf 15 = .ok (.if_icmp .ge 26, 3) := by decide +kernel
theorem dX3_pricesOf_18 : decode cX3_pricesOf 18 = .ok (.iload_n 1, 1) := by decide +kernel
theorem dX3_pricesOf_19 : decode cX3_pricesOf 19 = .ok (.iconst 1, 1) := by decide +kernel
theorem dX3_pricesOf_20 : decode cX3_pricesOf 20 = .ok (.iload_n 3, 1) := by decide +kernel
theorem dX3_pricesOf_21 : decode cX3_pricesOf 21 = .ok (.ishl, 1) := by decide +kernel
theorem dX3_pricesOf_22 : decode cX3_pricesOf 22 = .ok (.iand, 1) := by decide +kernel
theorem dX3_pricesOf_23 : decode cX3_pricesOf 23 = .ok (.ifCond .eq 12, 3) := by decide +kernel
theorem dX3_pricesOf_26 : decode cX3_pricesOf 26 = .ok (.iload_n 2, 1) := by decide +kernel
theorem dX3_pricesOf_27 : decode cX3_pricesOf 27 = .ok (.aload_n 0, 1) := by decide +kernel
theorem dX3_pricesOf_28 : decode cX3_pricesOf 28 = .ok (.getfield 18, 3) := by decide +kernel
theorem dX3_pricesOf_31 : decode cX3_pricesOf 31 = .ok (.iload_n 3, 1) := by decide +kernel
theorem dX3_pricesOf_32 : decode cX3_pricesOf 32 = .ok (.iaload, 1) := by decide +kernel
theorem dX3_pricesOf_33 : decode cX3_pricesOf 33 = .ok (.iadd, 1) := by decide +kernel
theorem dX3_pricesOf_34 : decode cX3_pricesOf 34 = .ok (.istore_n 2, 1) := by decide +kernel
theorem dX3_pricesOf_35 : decode cX3_pricesOf 35 = .ok (.iinc 3 1, 3) := by decide +kernel
theorem dX3_pricesOf_38 : decode cX3_pricesOf 38 = .ok (.goto (-34), 3) := by decide +kernel
theorem dX3_pricesOf_41 : decode cX3_pricesOf 41 = .ok (.iload_n 2, 1) := by decide +kernel
theorem dX3_pricesOf_42 : decode cX3_pricesOf 42 = .ok (.ireturn, 1) := by decide +kernel
theorem dX3_itemsOf_0 : decode cX3_itemsOf 0 = .ok (.iconst 0, 1) := by decide +kernel
theorem dX3_itemsOf_1 : decode cX3_itemsOf 1 = .ok (.istore_n 2, 1) := by decide +kernel
theorem dX3_itemsOf_2 : decode cX3_itemsOf 2 = .ok (.iconst 0, 1) := by decide +kernel
theorem dX3_itemsOf_3 : decode cX3_itemsOf 3 = .ok (.istore_n 3, 1) := by decide +kernel
theorem dX3_itemsOf_4 : decode cX3_itemsOf 4 = .ok (.iload_n 3, 1) := by decide +kernel
theorem dX3_itemsOf_5 : decode cX3_itemsOf 5 = .ok (.aload_n 0, 1) := by decide +kernel
theorem dX3_itemsOf_6 : decode cX3_itemsOf 6 = .ok (.getfield 33, 3) := by decide +kernel
theorem dX3_itemsOf_9 : decode cX3_itemsOf 9 = .ok (.if_icmp .ge 32, 3) := by decide +kernel
theorem dX3_itemsOf_12 : decode cX3_itemsOf 12 = .ok (.iload_n 3, 1) := by decide +kernel
theorem dX3_itemsOf_13 : decode cX3_itemsOf 13 = .ok (.bipush 10, 2) := by decide +kernel
theorem dX3_itemsOf_15 : decode cX3_itemsOf 15 = .ok (.if_icmp .ge 26, 3) := by decide +kernel
theorem dX3_itemsOf_18 : decode cX3_itemsOf 18 = .ok (.iload_n 1, 1) := by decide +kernel
theorem dX3_itemsOf_19 : decode cX3_itemsOf 19 = .ok (.iconst 1, 1) := by decide +kernel
theorem dX3_itemsOf_20 : decode cX3_itemsOf 20 = .ok (.iload_n 3, 1) := by decide +kernel
theorem dX3_itemsOf_21 : decode cX3_itemsOf 21 = .ok (.ishl, 1) := by decide +kernel
theorem dX3_itemsOf_22 : decode cX3_itemsOf 22 = .ok (.iand, 1) := by decide +kernel
theorem dX3_itemsOf_23 : decode cX3_itemsOf 23 = .ok (.ifCond .eq 12, 3) := by decide +kernel
theorem dX3_itemsOf_26 : decode cX3_itemsOf 26 = .ok (.iload_n 2, 1) := by decide +kernel
theorem dX3_itemsOf_27 : decode cX3_itemsOf 27 = .ok (.aload_n 0, 1) := by decide +kernel
theorem dX3_itemsOf_28 : decode cX3_itemsOf 28 = .ok (.getfield 15, 3) := by decide +kernel
theorem dX3_itemsOf_31 : decode cX3_itemsOf 31 = .ok (.iload_n 3, 1) := by decide +kernel
theorem dX3_itemsOf_32 : decode cX3_itemsOf 32 = .ok (.iaload, 1) := by decide +kernel
theorem dX3_itemsOf_33 : decode cX3_itemsOf 33 = .ok (.ior, 1) := by decide +kernel
theorem dX3_itemsOf_34 : decode cX3_itemsOf 34 = .ok (.istore_n 2, 1) := by decide +kernel
theorem dX3_itemsOf_35 : decode cX3_itemsOf 35 = .ok (.iinc 3 1, 3) := by decide +kernel
theorem dX3_itemsOf_38 : decode cX3_itemsOf 38 = .ok (.goto (-34), 3) := by decide +kernel
theorem dX3_itemsOf_41 : decode cX3_itemsOf 41 = .ok (.iload_n 2, 1) := by decide +kernel
theorem dX3_itemsOf_42 : decode cX3_itemsOf 42 = .ok (.ireturn, 1) := by decide +kernel
theorem dX3_holders_0 : decode cX3_holders 0 = .ok (.iconst 0, 1) := by decide +kernel
theorem dX3_holders_1 : decode cX3_holders 1 = .ok (.istore_n 2, 1) := by decide +kernel
theorem dX3_holders_2 : decode cX3_holders 2 = .ok (.iconst 0, 1) := by decide +kernel
theorem dX3_holders_3 : decode cX3_holders 3 = .ok (.istore_n 3, 1) := by decide +kernel
theorem dX3_holders_4 : decode cX3_holders 4 = .ok (.iload_n 3, 1) := by decide +kernel
theorem dX3_holders_5 : decode cX3_holders 5 = .ok (.aload_n 0, 1) := by decide +kernel
theorem dX3_holders_6 : decode cX3_holders 6 = .ok (.getfield 33, 3) := by decide +kernel
theorem dX3_holders_9 : decode cX3_holders 9 = .ok (.if_icmp .ge 32, 3) := by decide +kernel
theorem dX3_holders_12 : decode cX3_holders 12 = .ok (.iload_n 3, 1) := by decide +kernel
theorem dX3_holders_13 : decode cX3_holders 13 = .ok (.bipush 10, 2) := by decide +kernel
theorem dX3_holders_15 : decode cX3_holders 15 = .ok (.if_icmp .ge 26, 3) := by decide +kernel
theorem dX3_holders_18 : decode cX3_holders 18 = .ok (.aload_n 0, 1) := by decide +kernel
theorem dX3_holders_19 : decode cX3_holders 19 = .ok (.getfield 15, 3) := by decide +kernel
theorem dX3_holders_22 : decode cX3_holders 22 = .ok (.iload_n 3, 1) := by decide +kernel
theorem dX3_holders_23 : decode cX3_holders 23 = .ok (.iaload, 1) := by decide +kernel
theorem dX3_holders_24 : decode cX3_holders 24 = .ok (.iload_n 1, 1) := by decide +kernel
theorem dX3_holders_25 : decode cX3_holders 25 = .ok (.iand, 1) := by decide +kernel
theorem dX3_holders_26 : decode cX3_holders 26 = .ok (.ifCond .eq 9, 3) := by decide +kernel
theorem dX3_holders_29 : decode cX3_holders 29 = .ok (.iload_n 2, 1) := by decide +kernel
theorem dX3_holders_30 : decode cX3_holders 30 = .ok (.iconst 1, 1) := by decide +kernel
theorem dX3_holders_31 : decode cX3_holders 31 = .ok (.iload_n 3, 1) := by decide +kernel
theorem dX3_holders_32 : decode cX3_holders 32 = .ok (.ishl, 1) := by decide +kernel
theorem dX3_holders_33 : decode cX3_holders 33 = .ok (.ior, 1) := by decide +kernel
theorem dX3_holders_34 : decode cX3_holders 34 = .ok (.istore_n 2, 1) := by decide +kernel
theorem dX3_holders_35 : decode cX3_holders 35 = .ok (.iinc 3 1, 3) := by decide +kernel
theorem dX3_holders_38 : decode cX3_holders 38 = .ok (.goto (-34), 3) := by decide +kernel
theorem dX3_holders_41 : decode cX3_holders 41 = .ok (.iload_n 2, 1) := by decide +kernel
theorem dX3_holders_42 : decode cX3_holders 42 = .ok (.aload_n 0, 1) := by decide +kernel
theorem dX3_holders_43 : decode cX3_holders 43 = .ok (.getfield 37, 3) := by decide +kernel
theorem dX3_holders_46 : decode cX3_holders 46 = .ok (.iand, 1) := by decide +kernel
theorem dX3_holders_47 : decode cX3_holders 47 = .ok (.ireturn, 1) := by decide +kernel
theorem dX3_reservesBut_0 : decode cX3_reservesBut 0 = .ok (.iconst 0, 1) := by decide +kernel
theorem dX3_reservesBut_1 : decode cX3_reservesBut 1 = .ok (.istore_n 2, 1) := by decide +kernel
theorem dX3_reservesBut_2 : decode cX3_reservesBut 2 = .ok (.iconst 0, 1) := by decide +kernel
theorem dX3_reservesBut_3 : decode cX3_reservesBut 3 = .ok (.istore_n 3, 1) := by decide +kernel
theorem dX3_reservesBut_4 : decode cX3_reservesBut 4 = .ok (.iload_n 3, 1) := by decide +kernel
theorem dX3_reservesBut_5 : decode cX3_reservesBut 5 = .ok (.bipush 6, 2) := by decide +kernel
theorem dX3_reservesBut_7 : decode cX3_reservesBut 7 = .ok (.if_icmp .ge 26, 3) := by decide +kernel
theorem dX3_reservesBut_10 : decode cX3_reservesBut 10 = .ok (.iload_n 1, 1) := by decide +kernel
theorem dX3_reservesBut_11 : decode cX3_reservesBut 11 = .ok (.iload_n 3, 1) := by decide +kernel
theorem dX3_reservesBut_12 : decode cX3_reservesBut 12 = .ok (.invokestatic 60, 3) := by decide +kernel
theorem dX3_reservesBut_15 : decode cX3_reservesBut 15 = .ok (.ifCond .ne 12, 3) := by decide +kernel
theorem dX3_reservesBut_18 : decode cX3_reservesBut 18 = .ok (.iload_n 2, 1) := by decide +kernel
theorem dX3_reservesBut_19 : decode cX3_reservesBut 19 = .ok (.aload_n 0, 1) := by decide +kernel
theorem dX3_reservesBut_20 : decode cX3_reservesBut 20 = .ok (.getfield 30, 3) := by decide +kernel
theorem dX3_reservesBut_23 : decode cX3_reservesBut 23 = .ok (.iload_n 3, 1) := by decide +kernel
theorem dX3_reservesBut_24 : decode cX3_reservesBut 24 = .ok (.iaload, 1) := by decide +kernel
theorem dX3_reservesBut_25 : decode cX3_reservesBut 25 = .ok (.iadd, 1) := by decide +kernel
theorem dX3_reservesBut_26 : decode cX3_reservesBut 26 = .ok (.istore_n 2, 1) := by decide +kernel
theorem dX3_reservesBut_27 : decode cX3_reservesBut 27 = .ok (.iinc 3 1, 3) := by decide +kernel
theorem dX3_reservesBut_30 : decode cX3_reservesBut 30 = .ok (.goto (-26), 3) := by decide +kernel
theorem dX3_reservesBut_33 : decode cX3_reservesBut 33 = .ok (.iload_n 2, 1) := by decide +kernel
theorem dX3_reservesBut_34 : decode cX3_reservesBut 34 = .ok (.ireturn, 1) := by decide +kernel
theorem dX3_allows_0 : decode cX3_allows 0 = .ok (.iconst 0, 1) := by decide +kernel
theorem dX3_allows_1 : decode cX3_allows 1 = .ok (.istore_n 2, 1) := by decide +kernel
theorem dX3_allows_2 : decode cX3_allows 2 = .ok (.iload_n 2, 1) := by decide +kernel
theorem dX3_allows_3 : decode cX3_allows 3 = .ok (.iconst 5, 1) := by decide +kernel
theorem dX3_allows_4 : decode cX3_allows 4 = .ok (.if_icmp .ge 38, 3) := by decide +kernel
theorem dX3_allows_7 : decode cX3_allows 7 = .ok (.aload_n 0, 1) := by decide +kernel
theorem dX3_allows_8 : decode cX3_allows 8 = .ok (.aload_n 0, 1) := by decide +kernel
theorem dX3_allows_9 : decode cX3_allows 9 = .ok (.getfield 24, 3) := by decide +kernel
theorem dX3_allows_12 : decode cX3_allows 12 = .ok (.iload_n 2, 1) := by decide +kernel
theorem dX3_allows_13 : decode cX3_allows 13 = .ok (.iaload, 1) := by decide +kernel
theorem dX3_allows_14 : decode cX3_allows 14 = .ok (.aload_n 0, 1) := by decide +kernel
theorem dX3_allows_15 : decode cX3_allows 15 = .ok (.getfield 27, 3) := by decide +kernel
theorem dX3_allows_18 : decode cX3_allows 18 = .ok (.iload_n 2, 1) := by decide +kernel
theorem dX3_allows_19 : decode cX3_allows 19 = .ok (.iaload, 1) := by decide +kernel
theorem dX3_allows_20 : decode cX3_allows 20 = .ok (.iload_n 1, 1) := by decide +kernel
theorem dX3_allows_21 : decode cX3_allows 21 = .ok (.aload_n 0, 1) := by decide +kernel
theorem dX3_allows_22 : decode cX3_allows 22 = .ok (.getfield 21, 3) := by decide +kernel
theorem dX3_allows_25 : decode cX3_allows 25 = .ok (.iload_n 2, 1) := by decide +kernel
theorem dX3_allows_26 : decode cX3_allows 26 = .ok (.iaload, 1) := by decide +kernel
theorem dX3_allows_27 : decode cX3_allows 27 = .ok (.iand, 1) := by decide +kernel
theorem dX3_allows_28 : decode cX3_allows 28 = .ok (.invokevirtual 64, 3) := by decide +kernel
theorem dX3_allows_31 : decode cX3_allows 31 = .ok (.ifCond .ne 5, 3) := by decide +kernel
theorem dX3_allows_34 : decode cX3_allows 34 = .ok (.iconst 0, 1) := by decide +kernel
theorem dX3_allows_35 : decode cX3_allows 35 = .ok (.ireturn, 1) := by decide +kernel
theorem dX3_allows_36 : decode cX3_allows 36 = .ok (.iinc 2 1, 3) := by decide +kernel
theorem dX3_allows_39 : decode cX3_allows 39 = .ok (.goto (-37), 3) := by decide +kernel
theorem dX3_allows_42 : decode cX3_allows 42 = .ok (.iconst 1, 1) := by decide +kernel
theorem dX3_allows_43 : decode cX3_allows 43 = .ok (.ireturn, 1) := by decide +kernel
theorem dX3_mayWin_0 : decode cX3_mayWin 0 = .ok (.iload_n 3, 1) := by decide +kernel
theorem dX3_mayWin_1 : decode cX3_mayWin 1 = .ok (.invokestatic 68, 3) := by decide +kernel
theorem dX3_mayWin_4 : decode cX3_mayWin 4 = .ok (.istore 4, 2) := by decide +kernel
theorem dX3_mayWin_6 : decode cX3_mayWin 6 = .ok (.iload_n 1, 1) := by decide +kernel
theorem dX3_mayWin_7 : decode cX3_mayWin 7 = .ok (.tableswitch 117 1 5 #[33, 45, 57, 75, 99], 33) := by decide +kernel
theorem dX3_mayWin_40 : decode cX3_mayWin 40 = .ok (.iload 4, 2) := by decide +kernel
theorem dX3_mayWin_42 : decode cX3_mayWin 42 = .ok (.iconst 1, 1) := by decide +kernel
theorem dX3_mayWin_43 : decode cX3_mayWin 43 = .ok (.if_icmp .gt 7, 3) := by decide +kernel
theorem dX3_mayWin_46 : decode cX3_mayWin 46 = .ok (.iconst 1, 1) := by decide +kernel
theorem dX3_mayWin_47 : decode cX3_mayWin 47 = .ok (.goto 4, 3) := by decide +kernel
theorem dX3_mayWin_50 : decode cX3_mayWin 50 = .ok (.iconst 0, 1) := by decide +kernel
theorem dX3_mayWin_51 : decode cX3_mayWin 51 = .ok (.ireturn, 1) := by decide +kernel
theorem dX3_mayWin_52 : decode cX3_mayWin 52 = .ok (.iload 4, 2) := by decide +kernel
theorem dX3_mayWin_54 : decode cX3_mayWin 54 = .ok (.iload_n 2, 1) := by decide +kernel
theorem dX3_mayWin_55 : decode cX3_mayWin 55 = .ok (.if_icmp .gt 7, 3) := by decide +kernel
theorem dX3_mayWin_58 : decode cX3_mayWin 58 = .ok (.iconst 1, 1) := by decide +kernel
theorem dX3_mayWin_59 : decode cX3_mayWin 59 = .ok (.goto 4, 3) := by decide +kernel
theorem dX3_mayWin_62 : decode cX3_mayWin 62 = .ok (.iconst 0, 1) := by decide +kernel
theorem dX3_mayWin_63 : decode cX3_mayWin 63 = .ok (.ireturn, 1) := by decide +kernel
theorem dX3_mayWin_64 : decode cX3_mayWin 64 = .ok (.aload_n 0, 1) := by decide +kernel
theorem dX3_mayWin_65 : decode cX3_mayWin 65 = .ok (.iload_n 3, 1) := by decide +kernel
theorem dX3_mayWin_66 : decode cX3_mayWin 66 = .ok (.invokevirtual 74, 3) := by decide +kernel
theorem dX3_mayWin_69 : decode cX3_mayWin 69 = .ok (.bipush 10, 2) := by decide +kernel
theorem dX3_mayWin_71 : decode cX3_mayWin 71 = .ok (.iload_n 2, 1) := by decide +kernel
theorem dX3_mayWin_72 : decode cX3_mayWin 72 = .ok (.imul, 1) := by decide +kernel
theorem dX3_mayWin_73 : decode cX3_mayWin 73 = .ok (.if_icmp .gt 7, 3) := by decide +kernel
theorem dX3_mayWin_76 : decode cX3_mayWin 76 = .ok (.iconst 1, 1) := by decide +kernel
theorem dX3_mayWin_77 : decode cX3_mayWin 77 = .ok (.goto 4, 3) := by decide +kernel
theorem dX3_mayWin_80 : decode cX3_mayWin 80 = .ok (.iconst 0, 1) := by decide +kernel
theorem dX3_mayWin_81 : decode cX3_mayWin 81 = .ok (.ireturn, 1) := by decide +kernel
theorem dX3_mayWin_82 : decode cX3_mayWin 82 = .ok (.iload 4, 2) := by decide +kernel
theorem dX3_mayWin_84 : decode cX3_mayWin 84 = .ok (.iconst 1, 1) := by decide +kernel
theorem dX3_mayWin_85 : decode cX3_mayWin 85 = .ok (.if_icmp .gt 19, 3) := by decide +kernel
theorem dX3_mayWin_88 : decode cX3_mayWin 88 = .ok (.aload_n 0, 1) := by decide +kernel
theorem dX3_mayWin_89 : decode cX3_mayWin 89 = .ok (.iload_n 3, 1) := by decide +kernel
theorem dX3_mayWin_90 : decode cX3_mayWin 90 = .ok (.invokevirtual 77, 3) := by decide +kernel
theorem dX3_mayWin_93 : decode cX3_mayWin 93 = .ok (.invokestatic 68, 3) := by decide +kernel
theorem dX3_mayWin_96 : decode cX3_mayWin 96 = .ok (.iload_n 2, 1) := by decide +kernel
theorem dX3_mayWin_97 : decode cX3_mayWin 97 = .ok (.if_icmp .gt 7, 3) := by decide +kernel
theorem dX3_mayWin_100 : decode cX3_mayWin 100 = .ok (.iconst 1, 1) := by decide +kernel
theorem dX3_mayWin_101 : decode cX3_mayWin 101 = .ok (.goto 4, 3) := by decide +kernel
theorem dX3_mayWin_104 : decode cX3_mayWin 104 = .ok (.iconst 0, 1) := by decide +kernel
theorem dX3_mayWin_105 : decode cX3_mayWin 105 = .ok (.ireturn, 1) := by decide +kernel
theorem dX3_mayWin_106 : decode cX3_mayWin 106 = .ok (.iload 4, 2) := by decide +kernel
theorem dX3_mayWin_108 : decode cX3_mayWin 108 = .ok (.iload_n 2, 1) := by decide +kernel
theorem dX3_mayWin_109 : decode cX3_mayWin 109 = .ok (.if_icmp .gt 13, 3) := by decide +kernel
theorem dX3_mayWin_112 : decode cX3_mayWin 112 = .ok (.iload 4, 2) := by decide +kernel
theorem dX3_mayWin_114 : decode cX3_mayWin 114 = .ok (.iconst 1, 1) := by decide +kernel
theorem dX3_mayWin_115 : decode cX3_mayWin 115 = .ok (.if_icmp .eq 7, 3) := by decide +kernel
theorem dX3_mayWin_118 : decode cX3_mayWin 118 = .ok (.iconst 1, 1) := by decide +kernel
theorem dX3_mayWin_119 : decode cX3_mayWin 119 = .ok (.goto 4, 3) := by decide +kernel
theorem dX3_mayWin_122 : decode cX3_mayWin 122 = .ok (.iconst 0, 1) := by decide +kernel
theorem dX3_mayWin_123 : decode cX3_mayWin 123 = .ok (.ireturn, 1) := by decide +kernel
theorem dX3_mayWin_124 : decode cX3_mayWin 124 = .ok (.iconst 1, 1) := by decide +kernel
theorem dX3_mayWin_125 : decode cX3_mayWin 125 = .ok (.ireturn, 1) := by decide +kernel
theorem dX4_init_0 : decode cX4_init 0 = .ok (.aload_n 0, 1) := by decide +kernel
theorem dX4_init_1 : decode cX4_init 1 = .ok (.invokespecial 3, 3) := by decide +kernel
theorem dX4_init_4 : decode cX4_init 4 = .ok (.aload_n 0, 1) := by decide +kernel
theorem dX4_init_5 : decode cX4_init 5 = .ok (.bipush 96, 2) := by decide +kernel
theorem dX4_init_7 : decode cX4_init 7 = .ok (.newarray .int, 2) := by decide +kernel
theorem dX4_init_9 : decode cX4_init 9 = .ok (.putfield 9, 3) := by decide +kernel
theorem dX4_init_12 : decode cX4_init 12 = .ok (.aload_n 0, 1) := by decide +kernel
theorem dX4_init_13 : decode cX4_init 13 = .ok (.bipush 16, 2) := by decide +kernel
theorem dX4_init_15 : decode cX4_init 15 = .ok (.newarray .int, 2) := by decide +kernel
theorem dX4_init_17 : decode cX4_init 17 = .ok (.putfield 15, 3) := by decide +kernel
theorem dX4_init_20 : decode cX4_init 20 = .ok (.aload_n 0, 1) := by decide +kernel
theorem dX4_init_21 : decode cX4_init 21 = .ok (.bipush 16, 2) := by decide +kernel
theorem dX4_init_23 : decode cX4_init 23 = .ok (.newarray .int, 2) := by decide +kernel
theorem dX4_init_25 : decode cX4_init 25 = .ok (.putfield 18, 3) := by decide +kernel
theorem dX4_init_28 : decode cX4_init 28 = .ok (.aload_n 0, 1) := by decide +kernel
theorem dX4_init_29 : decode cX4_init 29 = .ok (.bipush 16, 2) := by decide +kernel
theorem dX4_init_31 : decode cX4_init 31 = .ok (.newarray .int, 2) := by decide +kernel
theorem dX4_init_33 : decode cX4_init 33 = .ok (.putfield 21, 3) := by decide +kernel
theorem dX4_init_36 : decode cX4_init 36 = .ok (.aload_n 0, 1) := by decide +kernel
theorem dX4_init_37 : decode cX4_init 37 = .ok (.bipush 16, 2) := by decide +kernel
theorem dX4_init_39 : decode cX4_init 39 = .ok (.newarray .int, 2) := by decide +kernel
theorem dX4_init_41 : decode cX4_init 41 = .ok (.putfield 24, 3) := by decide +kernel
theorem dX4_init_44 : decode cX4_init 44 = .ok (.aload_n 0, 1) := by decide +kernel
theorem dX4_init_45 : decode cX4_init 45 = .ok (.bipush 16, 2) := by decide +kernel
theorem dX4_init_47 : decode cX4_init 47 = .ok (.newarray .int, 2) := by decide +kernel
theorem dX4_init_49 : decode cX4_init 49 = .ok (.putfield 27, 3) := by decide +kernel
theorem dX4_init_52 : decode cX4_init 52 = .ok (.aload_n 0, 1) := by decide +kernel
theorem dX4_init_53 : decode cX4_init 53 = .ok (.iconst 0, 1) := by decide +kernel
theorem dX4_init_54 : decode cX4_init 54 = .ok (.putfield 30, 3) := by decide +kernel
theorem dX4_init_57 : decode cX4_init 57 = .ok (.aload_n 0, 1) := by decide +kernel
theorem dX4_init_58 : decode cX4_init 58 = .ok (.iconst 0, 1) := by decide +kernel
theorem dX4_init_59 : decode cX4_init 59 = .ok (.putfield 34, 3) := by decide +kernel
theorem dX4_init_62 : decode cX4_init 62 = .ok (.aload_n 0, 1) := by decide +kernel
theorem dX4_init_63 : decode cX4_init 63 = .ok (.bipush (-9), 2) := by decide +kernel
theorem dX4_init_65 : decode cX4_init 65 = .ok (.putfield 37, 3) := by decide +kernel
theorem dX4_init_68 : decode cX4_init 68 = .ok (.aload_n 0, 1) := by decide +kernel
theorem dX4_init_69 : decode cX4_init 69 = .ok (.iconst 0, 1) := by decide +kernel
theorem dX4_init_70 : decode cX4_init 70 = .ok (.putfield 40, 3) := by decide +kernel
theorem dX4_init_73 : decode cX4_init 73 = .ok (.return_, 1) := by decide +kernel
theorem dX4_isFull_0 : decode cX4_isFull 0 = .ok (.aload_n 0, 1) := by decide +kernel
theorem dX4_isFull_1 : decode cX4_isFull 1 = .ok (.getfield 30, 3) := by decide +kernel
theorem dX4_isFull_4 : decode cX4_isFull 4 = .ok (.bipush 96, 2) := by decide +kernel
theorem dX4_isFull_6 : decode cX4_isFull 6 = .ok (.if_icmp .lt 7, 3) := by decide +kernel
theorem dX4_isFull_9 : decode cX4_isFull 9 = .ok (.iconst 1, 1) := by decide +kernel
theorem dX4_isFull_10 : decode cX4_isFull 10 = .ok (.goto 4, 3) := by decide +kernel
theorem dX4_isFull_13 : decode cX4_isFull 13 = .ok (.iconst 0, 1) := by decide +kernel
theorem dX4_isFull_14 : decode cX4_isFull 14 = .ok (.ireturn, 1) := by decide +kernel
theorem dX4_append_0 : decode cX4_append 0 = .ok (.aload_n 0, 1) := by decide +kernel
theorem dX4_append_1 : decode cX4_append 1 = .ok (.invokevirtual 43, 3) := by decide +kernel
theorem dX4_append_4 : decode cX4_append 4 = .ok (.ifCond .ne 23, 3) := by decide +kernel
theorem dX4_append_7 : decode cX4_append 7 = .ok (.aload_n 0, 1) := by decide +kernel
theorem dX4_append_8 : decode cX4_append 8 = .ok (.getfield 9, 3) := by decide +kernel
theorem dX4_append_11 : decode cX4_append 11 = .ok (.aload_n 0, 1) := by decide +kernel
theorem dX4_append_12 : decode cX4_append 12 = .ok (.getfield 30, 3) := by decide +kernel
theorem dX4_append_15 : decode cX4_append 15 = .ok (.iload_n 1, 1) := by decide +kernel
theorem dX4_append_16 : decode cX4_append 16 = .ok (.iastore, 1) := by decide +kernel
theorem dX4_append_17 : decode cX4_append 17 = .ok (.aload_n 0, 1) := by decide +kernel
theorem dX4_append_18 : decode cX4_append 18 = .ok (.dup, 1) := by decide +kernel
theorem dX4_append_19 : decode cX4_append 19 = .ok (.getfield 30, 3) := by decide +kernel
theorem dX4_append_22 : decode cX4_append 22 = .ok (.iconst 1, 1) := by decide +kernel
theorem dX4_append_23 : decode cX4_append 23 = .ok (.iadd, 1) := by decide +kernel
theorem dX4_append_24 : decode cX4_append 24 = .ok (.putfield 30, 3) := by decide +kernel
theorem dX4_append_27 : decode cX4_append 27 = .ok (.aload_n 0, 1) := by decide +kernel
theorem dX4_append_28 : decode cX4_append 28 = .ok (.getfield 30, 3) := by decide +kernel
theorem dX4_append_31 : decode cX4_append 31 = .ok (.ireturn, 1) := by decide +kernel
theorem dX4_forget_0 : decode cX4_forget 0 = .ok (.aload_n 0, 1) := by decide +kernel
theorem dX4_forget_1 : decode cX4_forget 1 = .ok (.iconst 0, 1) := by decide +kernel
theorem dX4_forget_2 : decode cX4_forget 2 = .ok (.putfield 30, 3) := by decide +kernel
theorem dX4_forget_5 : decode cX4_forget 5 = .ok (.return_, 1) := by decide +kernel
theorem dX4_parse_0 : decode cX4_parse 0 = .ok (.aload_n 0, 1) := by decide +kernel
theorem dX4_parse_1 : decode cX4_parse 1 = .ok (.iconst 0, 1) := by decide +kernel
theorem dX4_parse_2 : decode cX4_parse 2 = .ok (.putfield 34, 3) := by decide +kernel
theorem dX4_parse_5 : decode cX4_parse 5 = .ok (.aload_n 0, 1) := by decide +kernel
theorem dX4_parse_6 : decode cX4_parse 6 = .ok (.bipush (-9), 2) := by decide +kernel
theorem dX4_parse_8 : decode cX4_parse 8 = .ok (.putfield 37, 3) := by decide +kernel
theorem dX4_parse_11 : decode cX4_parse 11 = .ok (.aload_n 0, 1) := by decide +kernel
theorem dX4_parse_12 : decode cX4_parse 12 = .ok (.iconst 0, 1) := by decide +kernel
theorem dX4_parse_13 : decode cX4_parse 13 = .ok (.putfield 40, 3) := by decide +kernel
theorem dX4_parse_16 : decode cX4_parse 16 = .ok (.aload_n 0, 1) := by decide +kernel
theorem dX4_parse_17 : decode cX4_parse 17 = .ok (.invokevirtual 47, 3) := by decide +kernel
theorem dX4_parse_20 : decode cX4_parse 20 = .ok (.iconst 0, 1) := by decide +kernel
theorem dX4_parse_21 : decode cX4_parse 21 = .ok (.istore_n 1, 1) := by decide +kernel
theorem dX4_parse_22 : decode cX4_parse 22 = .ok (.iload_n 1, 1) := by decide +kernel
theorem dX4_parse_23 : decode cX4_parse 23 = .ok (.bipush 16, 2) := by decide +kernel
theorem dX4_parse_25 : decode cX4_parse 25 = .ok (.if_icmp .ge 33, 3) := by decide +kernel
theorem dX4_parse_28 : decode cX4_parse 28 = .ok (.aload_n 0, 1) := by decide +kernel
theorem dX4_parse_29 : decode cX4_parse 29 = .ok (.getfield 37, 3) := by decide +kernel
theorem dX4_parse_32 : decode cX4_parse 32 = .ok (.bipush (-9), 2) := by decide +kernel
theorem dX4_parse_34 : decode cX4_parse 34 = .ok (.if_icmp .ne 24, 3) := by decide +kernel
theorem dX4_parse_37 : decode cX4_parse 37 = .ok (.aload_n 0, 1) := by decide +kernel
theorem dX4_parse_38 : decode cX4_parse 38 = .ok (.getfield 34, 3) := by decide +kernel
theorem dX4_parse_41 : decode cX4_parse 41 = .ok (.aload_n 0, 1) := by decide +kernel
theorem dX4_parse_42 : decode cX4_parse 42 = .ok (.getfield 30, 3) := by decide +kernel
theorem dX4_parse_45 : decode cX4_parse 45 = .ok (.if_icmp .ge 13, 3) := by decide +kernel
theorem dX4_parse_48 : decode cX4_parse 48 = .ok (.aload_n 0, 1) := by decide +kernel
theorem dX4_parse_49 : decode cX4_parse 49 = .ok (.invokevirtual 47, 3) := by decide +kernel
theorem dX4_parse_52 : decode cX4_parse 52 = .ok (.iinc 1 1, 3) := by decide +kernel
theorem dX4_parse_55 : decode cX4_parse 55 = .ok (.goto (-33), 3) := by decide +kernel
theorem dX4_parse_58 : decode cX4_parse 58 = .ok (.aload_n 0, 1) := by decide +kernel
theorem dX4_parse_59 : decode cX4_parse 59 = .ok (.getfield 37, 3) := by decide +kernel
theorem dX4_parse_62 : decode cX4_parse 62 = .ok (.ireturn, 1) := by decide +kernel
theorem dX4_readStatement_0 : decode cX4_readStatement 0 = .ok (.aload_n 0, 1) := by decide +kernel
theorem dX4_readStatement_1 : decode cX4_readStatement 1 = .ok (.getfield 34, 3) := by decide +kernel
theorem dX4_readStatement_4 : decode cX4_readStatement 4 = .ok (.istore_n 1, 1) := by decide +kernel
theorem dX4_readStatement_5 : decode cX4_readStatement 5 = .ok (.aload_n 0, 1) := by decide +kernel
theorem dX4_readStatement_6 : decode cX4_readStatement 6 = .ok (.invokevirtual 50, 3) := by decide +kernel
theorem dX4_readStatement_9 : decode cX4_readStatement 9 = .ok (.istore_n 2, 1) := by decide +kernel
theorem dX4_readStatement_10 : decode cX4_readStatement 10 = .ok (.aload_n 0, 1) := by decide +kernel
theorem dX4_readStatement_11 : decode cX4_readStatement 11 = .ok (.bipush 32, 2) := by decide +kernel
theorem dX4_readStatement_13 : decode cX4_readStatement 13 = .ok (.invokevirtual 54, 3) := by decide +kernel
theorem dX4_readStatement_16 : decode cX4_readStatement 16 = .ok (.iload_n 2, 1) := by decide +kernel
theorem dX4_readStatement_17 : decode cX4_readStatement 17 = .ok (.iconst 3, 1) := by decide +kernel
theorem dX4_readStatement_18 : decode cX4_readStatement 18 = .ok (.if_icmp .ne 10, 3) := by decide +kernel
theorem dX4_readStatement_21 : decode cX4_readStatement 21 = .ok (.aload_n 0, 1) := by decide +kernel
theorem dX4_readStatement_22 : decode cX4_readStatement 22 = .ok (.invokevirtual 58, 3) := by decide +kernel
theorem dX4_readStatement_25 : decode cX4_readStatement 25 = .ok (.goto 7, 3) := by decide +kernel
theorem dX4_readStatement_28 : decode cX4_readStatement 28 = .ok (.aload_n 0, 1) := by decide +kernel
theorem dX4_readStatement_29 : decode cX4_readStatement 29 = .ok (.invokevirtual 61, 3) := by decide +kernel
theorem dX4_readStatement_32 : decode cX4_readStatement 32 = .ok (.istore_n 3, 1) := by decide +kernel
theorem dX4_readStatement_33 : decode cX4_readStatement 33 = .ok (.iconst 0, 1) := by decide +kernel
theorem dX4_readStatement_34 : decode cX4_readStatement 34 = .ok (.istore 4, 2) := by decide +kernel
theorem dX4_readStatement_36 : decode cX4_readStatement 36 = .ok (.iconst 0, 1) := by decide +kernel
theorem dX4_readStatement_37 : decode cX4_readStatement 37 = .ok (.istore 5, 2) := by decide +kernel
theorem dX4_readStatement_39 : decode cX4_readStatement 39 = .ok (.iload_n 2, 1) := by decide +kernel
theorem dX4_readStatement_40 : decode cX4_readStatement 40 = .ok (.iconst 1, 1) := by decide +kernel
theorem dX4_readStatement_41 : decode cX4_readStatement 41 = .ok (.if_icmp .eq 26, 3) := by decide +kernel
theorem dX4_readStatement_44 : decode cX4_readStatement 44 = .ok (.aload_n 0, 1) := by decide +kernel
theorem dX4_readStatement_45 : decode cX4_readStatement 45 = .ok (.bipush 32, 2) := by decide +kernel
theorem dX4_readStatement_47 : decode cX4_readStatement 47 = .ok (.invokevirtual 54, 3) := by decide +kernel
theorem dX4_readStatement_50 : decode cX4_readStatement 50 = .ok (.iload_n 2, 1) := by decide +kernel
theorem dX4_readStatement_51 : decode cX4_readStatement 51 = .ok (.ifCond .ne 10, 3) := by decide +kernel
theorem dX4_readStatement_54 : decode cX4_readStatement 54 = .ok (.aload_n 0, 1) := by decide +kernel
theorem dX4_readStatement_55 : decode cX4_readStatement 55 = .ok (.invokevirtual 64, 3) := by decide +kernel
theorem dX4_readStatement_58 : decode cX4_readStatement 58 = .ok (.goto 7, 3) := by decide +kernel
theorem dX4_readStatement_61 : decode cX4_readStatement 61 = .ok (.aload_n 0, 1) := by decide +kernel
theorem dX4_readStatement_62 : decode cX4_readStatement 62 = .ok (.invokevirtual 61, 3) := by decide +kernel
theorem dX4_readStatement_65 : decode cX4_readStatement 65 = .ok (.istore 4, 2) := by decide +kernel
theorem dX4_readStatement_67 : decode cX4_readStatement 67 = .ok (.iload_n 2, 1) := by decide +kernel
theorem dX4_readStatement_68 : decode cX4_readStatement 68 = .ok (.ifCond .eq 8, 3) := by decide +kernel
theorem dX4_readStatement_71 : decode cX4_readStatement 71 = .ok (.iload_n 2, 1) := by decide +kernel
theorem dX4_readStatement_72 : decode cX4_readStatement 72 = .ok (.iconst 2, 1) := by decide +kernel
theorem dX4_readStatement_73 : decode cX4_readStatement 73 = .ok (.if_icmp .ne 15, 3) := by decide +kernel
theorem dX4_readStatement_76 : decode cX4_readStatement 76 = .ok (.aload_n 0, 1) := by decide +kernel
theorem dX4_readStatement_77 : decode cX4_readStatement 77 = .ok (.bipush 32, 2) := by decide +kernel
theorem dX4_readStatement_79 : decode cX4_readStatement 79 = .ok (.invokevirtual 54, 3) := by decide +kernel
theorem dX4_readStatement_82 : decode cX4_readStatement 82 = .ok (.aload_n 0, 1) := by decide +kernel
theorem dX4_readStatement_83 : decode cX4_readStatement 83 = .ok (.invokevirtual 61, 3) := by decide +kernel
theorem dX4_readStatement_86 : decode cX4_readStatement 86 = .ok (.istore 5, 2) := by decide +kernel
theorem dX4_readStatement_88 : decode cX4_readStatement 88 = .ok (.aload_n 0, 1) := by decide +kernel
theorem dX4_readStatement_89 : decode cX4_readStatement 89 = .ok (.bipush 59, 2) := by decide +kernel
theorem dX4_readStatement_91 : decode cX4_readStatement 91 = .ok (.invokevirtual 54, 3) := by decide +kernel
theorem dX4_readStatement_94 : decode cX4_readStatement 94 = .ok (.aload_n 0, 1) := by decide +kernel
theorem dX4_readStatement_95 : decode cX4_readStatement 95 = .ok (.getfield 37, 3) := by decide +kernel
theorem dX4_readStatement_98 : decode cX4_readStatement 98 = .ok (.bipush (-9), 2) := by decide +kernel
theorem dX4_readStatement_100 : decode cX4_readStatement 100 = .ok (.if_icmp .ne 74, 3) := by decide +kernel
theorem dX4_readStatement_103 : decode cX4_readStatement 103 = .ok (.aload_n 0, 1) := by decide +kernel
theorem dX4_readStatement_104 : decode cX4_readStatement 104 = .ok (.getfield 40, 3) := by decide +kernel
theorem dX4_readStatement_107 : decode cX4_readStatement 107 = .ok (.bipush 16, 2) := by decide +kernel
theorem dX4_readStatement_109 : decode cX4_readStatement 109 = .ok (.if_icmp .ge 65, 3) := by decide +kernel
theorem dX4_readStatement_112 : decode cX4_readStatement 112 = .ok (.aload_n 0, 1) := by decide +kernel
theorem dX4_readStatement_113 : decode cX4_readStatement 113 = .ok (.getfield 15, 3) := by decide +kernel
theorem dX4_readStatement_116 : decode cX4_readStatement 116 = .ok (.aload_n 0, 1) := by decide +kernel
theorem dX4_readStatement_117 : decode cX4_readStatement 117 = .ok (.getfield 40, 3) := by decide +kernel
theorem dX4_readStatement_120 : decode cX4_readStatement 120 = .ok (.iload_n 1, 1) := by decide +kernel
theorem dX4_readStatement_121 : decode cX4_readStatement 121 = .ok (.iastore, 1) := by decide +kernel
theorem dX4_readStatement_122 : decode cX4_readStatement 122 = .ok (.aload_n 0, 1) := by decide +kernel
theorem dX4_readStatement_123 : decode cX4_readStatement 123 = .ok (.getfield 18, 3) := by decide +kernel
theorem dX4_readStatement_126 : decode cX4_readStatement 126 = .ok (.aload_n 0, 1) := by decide +kernel
theorem dX4_readStatement_127 : decode cX4_readStatement 127 = .ok (.getfield 40, 3) := by decide +kernel
theorem dX4_readStatement_130 : decode cX4_readStatement 130 = .ok (.iload_n 2, 1) := by decide +kernel
theorem dX4_readStatement_131 : decode cX4_readStatement 131 = .ok (.iastore, 1) := by decide +kernel
theorem dX4_readStatement_132 : decode cX4_readStatement 132 = .ok (.aload_n 0, 1) := by decide +kernel
theorem dX4_readStatement_133 : decode cX4_readStatement 133 = .ok (.getfield 21, 3) := by decide +kernel
theorem dX4_readStatement_136 : decode cX4_readStatement 136 = .ok (.aload_n 0, 1) := by decide +kernel
theorem dX4_readStatement_137 : decode cX4_readStatement 137 = .ok (.getfield 40, 3) := by decide +kernel
theorem dX4_readStatement_140 : decode cX4_readStatement 140 = .ok (.iload_n 3, 1) := by decide +kernel
theorem dX4_readStatement_141 : decode cX4_readStatement 141 = .ok (.iastore, 1) := by decide +kernel
theorem dX4_readStatement_142 : decode cX4_readStatement 142 = .ok (.aload_n 0, 1) := by decide +kernel
theorem dX4_readStatement_143 : decode cX4_readStatement 143 = .ok (.getfield 24, 3) := by decide +kernel
theorem dX4_readStatement_146 : decode cX4_readStatement 146 = .ok (.aload_n 0, 1) := by decide +kernel
theorem dX4_readStatement_147 : decode cX4_readStatement 147 = .ok (.getfield 40, 3) := by decide +kernel
theorem dX4_readStatement_150 : decode cX4_readStatement 150 = .ok (.iload 4, 2) := by decide +kernel
theorem dX4_readStatement_152 : decode cX4_readStatement 152 = .ok (.iastore, 1) := by decide +kernel
theorem dX4_readStatement_153 : decode cX4_readStatement 153 = .ok (.aload_n 0, 1) := by decide +kernel
theorem dX4_readStatement_154 : decode cX4_readStatement 154 = .ok (.getfield 27, 3) := by decide +kernel
theorem dX4_readStatement_157 : decode cX4_readStatement 157 = .ok (.aload_n 0, 1) := by decide +kernel
theorem dX4_readStatement_158 : decode cX4_readStatement 158 = .ok (.getfield 40, 3) := by decide +kernel
theorem dX4_readStatement_161 : decode cX4_readStatement 161 = .ok (.iload 5, 2) := by decide +kernel
theorem dX4_readStatement_163 : decode cX4_readStatement 163 = .ok (.iastore, 1) := by decide +kernel
theorem dX4_readStatement_164 : decode cX4_readStatement 164 = .ok (.aload_n 0, 1) := by decide +kernel
theorem dX4_readStatement_165 : decode cX4_readStatement 165 = .ok (.dup, 1) := by decide +kernel
theorem dX4_readStatement_166 : decode cX4_readStatement 166 = .ok (.getfield 40, 3) := by decide +kernel
theorem dX4_readStatement_169 : decode cX4_readStatement 169 = .ok (.iconst 1, 1) := by decide +kernel
theorem dX4_readStatement_170 : decode cX4_readStatement 170 = .ok (.iadd, 1) := by decide +kernel
theorem dX4_readStatement_171 : decode cX4_readStatement 171 = .ok (.putfield 40, 3) := by decide +kernel
theorem dX4_readStatement_174 : decode cX4_readStatement 174 = .ok (.return_, 1) := by decide +kernel
theorem dX4_signHere_0 : decode cX4_signHere 0 = .ok (.aload_n 0, 1) := by decide +kernel
theorem dX4_signHere_1 : decode cX4_signHere 1 = .ok (.getfield 34, 3) := by decide +kernel
theorem dX4_signHere_4 : decode cX4_signHere 4 = .ok (.ifCond .lt 35, 3) := by decide +kernel
theorem dX4_signHere_7 : decode cX4_signHere 7 = .ok (.aload_n 0, 1) := by decide +kernel
theorem dX4_signHere_8 : decode cX4_signHere 8 = .ok (.getfield 34, 3) := by decide +kernel
theorem dX4_signHere_11 : decode cX4_signHere 11 = .ok (.aload_n 0, 1) := by decide +kernel
theorem dX4_signHere_12 : decode cX4_signHere 12 = .ok (.getfield 30, 3) := by decide +kernel
theorem dX4_signHere_15 : decode cX4_signHere 15 = .ok (.if_icmp .ge 24, 3) := by decide +kernel
theorem dX4_signHere_18 : decode cX4_signHere 18 = .ok (.aload_n 0, 1) := by decide +kernel
theorem dX4_signHere_19 : decode cX4_signHere 19 = .ok (.getfield 34, 3) := by decide +kernel
theorem dX4_signHere_22 : decode cX4_signHere 22 = .ok (.bipush 96, 2) := by decide +kernel
theorem dX4_signHere_24 : decode cX4_signHere 24 = .ok (.if_icmp .ge 15, 3) := by decide +kernel
theorem dX4_signHere_27 : decode cX4_signHere 27 = .ok (.aload_n 0, 1) := by decide +kernel
theorem dX4_signHere_28 : decode cX4_signHere 28 = .ok (.getfield 9, 3) := by decide +kernel
theorem dX4_signHere_31 : decode cX4_signHere 31 = .ok (.aload_n 0, 1) := by decide +kernel
theorem dX4_signHere_32 : decode cX4_signHere 32 = .ok (.getfield 34, 3) := by decide +kernel
theorem dX4_signHere_35 : decode cX4_signHere 35 = .ok (.iaload, 1) := by decide +kernel
theorem dX4_signHere_36 : decode cX4_signHere 36 = .ok (.goto 5, 3) := by decide +kernel
theorem dX4_signHere_39 : decode cX4_signHere 39 = .ok (.bipush (-9), 2) := by decide +kernel
theorem dX4_signHere_41 : decode cX4_signHere 41 = .ok (.ireturn, 1) := by decide +kernel
theorem dX4_isSmall_0 : decode cX4_isSmall 0 = .ok (.iload_n 0, 1) := by decide +kernel
theorem dX4_isSmall_1 : decode cX4_isSmall 1 = .ok (.bipush 97, 2) := by decide +kernel
theorem dX4_isSmall_3 : decode cX4_isSmall 3 = .ok (.if_icmp .lt 13, 3) := by decide +kernel
theorem dX4_isSmall_6 : decode cX4_isSmall 6 = .ok (.iload_n 0, 1) := by decide +kernel
theorem dX4_isSmall_7 : decode cX4_isSmall 7 = .ok (.bipush 122, 2) := by decide +kernel
theorem dX4_isSmall_9 : decode cX4_isSmall 9 = .ok (.if_icmp .gt 7, 3) := by decide +kernel
theorem dX4_isSmall_12 : decode cX4_isSmall 12 = .ok (.iconst 1, 1) := by decide +kernel
theorem dX4_isSmall_13 : decode cX4_isSmall 13 = .ok (.goto 4, 3) := by decide +kernel
theorem dX4_isSmall_16 : decode cX4_isSmall 16 = .ok (.iconst 0, 1) := by decide +kernel
theorem dX4_isSmall_17 : decode cX4_isSmall 17 = .ok (.ireturn, 1) := by decide +kernel
theorem dX4_isDigit_0 : decode cX4_isDigit 0 = .ok (.iload_n 0, 1) := by decide +kernel
theorem dX4_isDigit_1 : decode cX4_isDigit 1 = .ok (.bipush 48, 2) := by decide +kernel
theorem dX4_isDigit_3 : decode cX4_isDigit 3 = .ok (.if_icmp .lt 13, 3) := by decide +kernel
theorem dX4_isDigit_6 : decode cX4_isDigit 6 = .ok (.iload_n 0, 1) := by decide +kernel
theorem dX4_isDigit_7 : decode cX4_isDigit 7 = .ok (.bipush 57, 2) := by decide +kernel
theorem dX4_isDigit_9 : decode cX4_isDigit 9 = .ok (.if_icmp .gt 7, 3) := by decide +kernel
theorem dX4_isDigit_12 : decode cX4_isDigit 12 = .ok (.iconst 1, 1) := by decide +kernel
theorem dX4_isDigit_13 : decode cX4_isDigit 13 = .ok (.goto 4, 3) := by decide +kernel
theorem dX4_isDigit_16 : decode cX4_isDigit 16 = .ok (.iconst 0, 1) := by decide +kernel
theorem dX4_isDigit_17 : decode cX4_isDigit 17 = .ok (.ireturn, 1) := by decide +kernel
theorem dX4_noteFault_0 : decode cX4_noteFault 0 = .ok (.aload_n 0, 1) := by decide +kernel
theorem dX4_noteFault_1 : decode cX4_noteFault 1 = .ok (.getfield 37, 3) := by decide +kernel
theorem dX4_noteFault_4 : decode cX4_noteFault 4 = .ok (.bipush (-9), 2) := by decide +kernel
theorem dX4_noteFault_6 : decode cX4_noteFault 6 = .ok (.if_icmp .ne 8, 3) := by decide +kernel
theorem dX4_noteFault_9 : decode cX4_noteFault 9 = .ok (.aload_n 0, 1) := by decide +kernel
theorem dX4_noteFault_10 : decode cX4_noteFault 10 = .ok (.iload_n 1, 1) := by decide +kernel
theorem dX4_noteFault_11 : decode cX4_noteFault 11 = .ok (.putfield 37, 3) := by decide +kernel
theorem dX4_noteFault_14 : decode cX4_noteFault 14 = .ok (.return_, 1) := by decide +kernel
theorem dX4_readSign_0 : decode cX4_readSign 0 = .ok (.aload_n 0, 1) := by decide +kernel
theorem dX4_readSign_1 : decode cX4_readSign 1 = .ok (.getfield 37, 3) := by decide +kernel
theorem dX4_readSign_4 : decode cX4_readSign 4 = .ok (.bipush (-9), 2) := by decide +kernel
theorem dX4_readSign_6 : decode cX4_readSign 6 = .ok (.if_icmp .eq 4, 3) := by decide +kernel
theorem dX4_readSign_9 : decode cX4_readSign 9 = .ok (.return_, 1) := by decide +kernel
theorem dX4_readSign_10 : decode cX4_readSign 10 = .ok (.aload_n 0, 1) := by decide +kernel
theorem dX4_readSign_11 : decode cX4_readSign 11 = .ok (.invokevirtual 67, 3) := by decide +kernel
theorem dX4_readSign_14 : decode cX4_readSign 14 = .ok (.iload_n 1, 1) := by decide +kernel
theorem dX4_readSign_15 : decode cX4_readSign 15 = .ok (.if_icmp .ne 16, 3) := by decide +kernel
theorem dX4_readSign_18 : decode cX4_readSign 18 = .ok (.aload_n 0, 1) := by decide +kernel
theorem dX4_readSign_19 : decode cX4_readSign 19 = .ok (.dup, 1) := by decide +kernel
theorem dX4_readSign_20 : decode cX4_readSign 20 = .ok (.getfield 34, 3) := by decide +kernel
theorem dX4_readSign_23 : decode cX4_readSign 23 = .ok (.iconst 1, 1) := by decide +kernel
theorem dX4_readSign_24 : decode cX4_readSign 24 = .ok (.iadd, 1) := by decide +kernel
theorem dX4_readSign_25 : decode cX4_readSign 25 = .ok (.putfield 34, 3) := by decide +kernel
theorem dX4_readSign_28 : decode cX4_readSign 28 = .ok (.goto 11, 3) := by decide +kernel
theorem dX4_readSign_31 : decode cX4_readSign 31 = .ok (.aload_n 0, 1) := by decide +kernel
theorem dX4_readSign_32 : decode cX4_readSign 32 = .ok (.aload_n 0, 1) := by decide +kernel
theorem dX4_readSign_33 : decode cX4_readSign 33 = .ok (.getfield 34, 3) := by decide +kernel
theorem dX4_readSign_36 : decode cX4_readSign 36 = .ok (.invokevirtual 70, 3) := by decide +kernel
theorem dX4_readSign_39 : decode cX4_readSign 39 = .ok (.return_, 1) := by decide +kernel
theorem dX4_readWord_0 : decode cX4_readWord 0 = .ok (.aload_n 0, 1) := by decide +kernel
theorem dX4_readWord_1 : decode cX4_readWord 1 = .ok (.getfield 34, 3) := by decide +kernel
theorem dX4_readWord_4 : decode cX4_readWord 4 = .ok (.istore_n 1, 1) := by decide +kernel
theorem dX4_readWord_5 : decode cX4_readWord 5 = .ok (.iconst 0, 1) := by decide +kernel
theorem dX4_readWord_6 : decode cX4_readWord 6 = .ok (.istore_n 2, 1) := by decide +kernel
theorem dX4_readWord_7 : decode cX4_readWord 7 = .ok (.iload_n 2, 1) := by decide +kernel
theorem dX4_readWord_8 : decode cX4_readWord 8 = .ok (.bipush 96, 2) := by decide +kernel
theorem dX4_readWord_10 : decode cX4_readWord 10 = .ok (.if_icmp .ge 29, 3) := by decide +kernel
theorem dX4_readWord_13 : decode cX4_readWord 13 = .ok (.aload_n 0, 1) := by decide +kernel
theorem dX4_readWord_14 : decode cX4_readWord 14 = .ok (.invokevirtual 67, 3) := by decide +kernel
theorem dX4_readWord_17 : decode cX4_readWord 17 = .ok (.invokestatic 73, 3) := by decide +kernel
theorem dX4_readWord_20 : decode cX4_readWord 20 = .ok (.ifCond .eq 19, 3) := by decide +kernel
theorem dX4_readWord_23 : decode cX4_readWord 23 = .ok (.aload_n 0, 1) := by decide +kernel
theorem dX4_readWord_24 : decode cX4_readWord 24 = .ok (.dup, 1) := by decide +kernel
theorem dX4_readWord_25 : decode cX4_readWord 25 = .ok (.getfield 34, 3) := by decide +kernel
theorem dX4_readWord_28 : decode cX4_readWord 28 = .ok (.iconst 1, 1) := by decide +kernel
theorem dX4_readWord_29 : decode cX4_readWord 29 = .ok (.iadd, 1) := by decide +kernel
theorem dX4_readWord_30 : decode cX4_readWord 30 = .ok (.putfield 34, 3) := by decide +kernel
theorem dX4_readWord_33 : decode cX4_readWord 33 = .ok (.iinc 2 1, 3) := by decide +kernel
theorem dX4_readWord_36 : decode cX4_readWord 36 = .ok (.goto (-29), 3) := by decide +kernel
theorem dX4_readWord_39 : decode cX4_readWord 39 = .ok (.aload_n 0, 1) := by decide +kernel
theorem dX4_readWord_40 : decode cX4_readWord 40 = .ok (.iload_n 1, 1) := by decide +kernel
theorem dX4_readWord_41 : decode cX4_readWord 41 = .ok (.aload_n 0, 1) := by decide +kernel
theorem dX4_readWord_42 : decode cX4_readWord 42 = .ok (.getfield 34, 3) := by decide +kernel
theorem dX4_readWord_45 : decode cX4_readWord 45 = .ok (.invokevirtual 77, 3) := by decide +kernel
theorem dX4_readWord_48 : decode cX4_readWord 48 = .ok (.istore_n 2, 1) := by decide +kernel
theorem dX4_readWord_49 : decode cX4_readWord 49 = .ok (.iload_n 2, 1) := by decide +kernel
theorem dX4_readWord_50 : decode cX4_readWord 50 = .ok (.iconst (-1), 1) := by decide +kernel
theorem dX4_readWord_51 : decode cX4_readWord 51 = .ok (.if_icmp .ne 8, 3) := by decide +kernel
theorem dX4_readWord_54 : decode cX4_readWord 54 = .ok (.aload_n 0, 1) := by decide +kernel
theorem dX4_readWord_55 : decode cX4_readWord 55 = .ok (.iload_n 1, 1) := by decide +kernel
theorem dX4_readWord_56 : decode cX4_readWord 56 = .ok (.invokevirtual 70, 3) := by decide +kernel
theorem dX4_readWord_59 : decode cX4_readWord 59 = .ok (.iload_n 2, 1) := by decide +kernel
theorem dX4_readWord_60 : decode cX4_readWord 60 = .ok (.ireturn, 1) := by decide +kernel
theorem dX4_wordFrom_0 : decode cX4_wordFrom 0 = .ok (.aload_n 0, 1) := by decide +kernel
theorem dX4_wordFrom_1 : decode cX4_wordFrom 1 = .ok (.ldc 81, 2) := by decide +kernel
theorem dX4_wordFrom_3 : decode cX4_wordFrom 3 = .ok (.iload_n 1, 1) := by decide +kernel
theorem dX4_wordFrom_4 : decode cX4_wordFrom 4 = .ok (.iload_n 2, 1) := by decide +kernel
theorem dX4_wordFrom_5 : decode cX4_wordFrom 5 = .ok (.invokevirtual 83, 3) := by decide +kernel
theorem dX4_wordFrom_8 : decode cX4_wordFrom 8 = .ok (.ifCond .eq 5, 3) := by decide +kernel
theorem dX4_wordFrom_11 : decode cX4_wordFrom 11 = .ok (.iconst 0, 1) := by decide +kernel
theorem dX4_wordFrom_12 : decode cX4_wordFrom 12 = .ok (.ireturn, 1) := by decide +kernel
theorem dX4_wordFrom_13 : decode cX4_wordFrom 13 = .ok (.aload_n 0, 1) := by decide +kernel
theorem dX4_wordFrom_14 : decode cX4_wordFrom 14 = .ok (.ldc 87, 2) := by decide +kernel
theorem dX4_wordFrom_16 : decode cX4_wordFrom 16 = .ok (.iload_n 1, 1) := by decide +kernel
theorem dX4_wordFrom_17 : decode cX4_wordFrom 17 = .ok (.iload_n 2, 1) := by decide +kernel
theorem dX4_wordFrom_18 : decode cX4_wordFrom 18 = .ok (.invokevirtual 83, 3) := by decide +kernel
theorem dX4_wordFrom_21 : decode cX4_wordFrom 21 = .ok (.ifCond .eq 5, 3) := by decide +kernel
theorem dX4_wordFrom_24 : decode cX4_wordFrom 24 = .ok (.iconst 1, 1) := by decide +kernel
theorem dX4_wordFrom_25 : decode cX4_wordFrom 25 = .ok (.ireturn, 1) := by decide +kernel
theorem dX4_wordFrom_26 : decode cX4_wordFrom 26 = .ok (.aload_n 0, 1) := by decide +kernel
theorem dX4_wordFrom_27 : decode cX4_wordFrom 27 = .ok (.ldc 89, 2) := by decide +kernel
theorem dX4_wordFrom_29 : decode cX4_wordFrom 29 = .ok (.iload_n 1, 1) := by decide +kernel
theorem dX4_wordFrom_30 : decode cX4_wordFrom 30 = .ok (.iload_n 2, 1) := by decide +kernel
theorem dX4_wordFrom_31 : decode cX4_wordFrom 31 = .ok (.invokevirtual 83, 3) := by decide +kernel
theorem dX4_wordFrom_34 : decode cX4_wordFrom 34 = .ok (.ifCond .eq 5, 3) := by decide +kernel
theorem dX4_wordFrom_37 : decode cX4_wordFrom 37 = .ok (.iconst 2, 1) := by decide +kernel
theorem dX4_wordFrom_38 : decode cX4_wordFrom 38 = .ok (.ireturn, 1) := by decide +kernel
theorem dX4_wordFrom_39 : decode cX4_wordFrom 39 = .ok (.aload_n 0, 1) := by decide +kernel
theorem dX4_wordFrom_40 : decode cX4_wordFrom 40 = .ok (.ldc 91, 2) := by decide +kernel
theorem dX4_wordFrom_42 : decode cX4_wordFrom 42 = .ok (.iload_n 1, 1) := by decide +kernel
theorem dX4_wordFrom_43 : decode cX4_wordFrom 43 = .ok (.iload_n 2, 1) := by decide +kernel
theorem dX4_wordFrom_44 : decode cX4_wordFrom 44 = .ok (.invokevirtual 83, 3) := by decide +kernel
theorem dX4_wordFrom_47 : decode cX4_wordFrom 47 = .ok (.ifCond .eq 5, 3) := by decide +kernel
theorem dX4_wordFrom_50 : decode cX4_wordFrom 50 = .ok (.iconst 3, 1) := by decide +kernel
theorem dX4_wordFrom_51 : decode cX4_wordFrom 51 = .ok (.ireturn, 1) := by decide +kernel
theorem dX4_wordFrom_52 : decode cX4_wordFrom 52 = .ok (.aload_n 0, 1) := by decide +kernel
theorem dX4_wordFrom_53 : decode cX4_wordFrom 53 = .ok (.ldc 93, 2) := by decide +kernel
theorem dX4_wordFrom_55 : decode cX4_wordFrom 55 = .ok (.iload_n 1, 1) := by decide +kernel
theorem dX4_wordFrom_56 : decode cX4_wordFrom 56 = .ok (.iload_n 2, 1) := by decide +kernel
theorem dX4_wordFrom_57 : decode cX4_wordFrom 57 = .ok (.invokevirtual 83, 3) := by decide +kernel
theorem dX4_wordFrom_60 : decode cX4_wordFrom 60 = .ok (.ifCond .eq 7, 3) := by decide +kernel
theorem dX4_wordFrom_63 : decode cX4_wordFrom 63 = .ok (.iconst 4, 1) := by decide +kernel
theorem dX4_wordFrom_64 : decode cX4_wordFrom 64 = .ok (.goto 4, 3) := by decide +kernel
theorem dX4_wordFrom_67 : decode cX4_wordFrom 67 = .ok (.iconst (-1), 1) := by decide +kernel
theorem dX4_wordFrom_68 : decode cX4_wordFrom 68 = .ok (.ireturn, 1) := by decide +kernel
theorem dX4_spells_0 : decode cX4_spells 0 = .ok (.iload_n 2, 1) := by decide +kernel
theorem dX4_spells_1 : decode cX4_spells 1 = .ok (.ifCond .lt 19, 3) := by decide +kernel
theorem dX4_spells_4 : decode cX4_spells 4 = .ok (.iload_n 3, 1) := by decide +kernel
theorem dX4_spells_5 : decode cX4_spells 5 = .ok (.bipush 96, 2) := by decide +kernel
theorem dX4_spells_7 : decode cX4_spells 7 = .ok (.if_icmp .gt 13, 3) := by decide +kernel
theorem dX4_spells_10 : decode cX4_spells 10 = .ok (.iload_n 3, 1) := by decide +kernel
theorem dX4_spells_11 : decode cX4_spells 11 = .ok (.iload_n 2, 1) := by decide +kernel
theorem dX4_spells_12 : decode cX4_spells 12 = .ok (.isub, 1) := by decide +kernel
theorem dX4_spells_13 : decode cX4_spells 13 = .ok (.aload_n 1, 1) := by decide +kernel
theorem dX4_spells_14 : decode cX4_spells 14 = .ok (.invokevirtual 95, 3) := by decide +kernel
theorem dX4_spells_17 : decode cX4_spells 17 = .ok (.if_icmp .eq 5, 3) := by decide +kernel
theorem dX4_spells_20 : decode cX4_spells 20 = .ok (.iconst 0, 1) := by decide +kernel
theorem dX4_spells_21 : decode cX4_spells 21 = .ok (.ireturn, 1) := by decide +kernel
theorem dX4_spells_22 : decode cX4_spells 22 = .ok (.iconst 0, 1) := by decide +kernel
theorem dX4_spells_23 : decode cX4_spells 23 = .ok (.istore 4, 2) := by decide +kernel
theorem dX4_spells_25 : decode cX4_spells 25 = .ok (.iload 4, 2) := by decide +kernel
theorem dX4_spells_27 : decode cX4_spells 27 = .ok (.aload_n 1, 1) := by decide +kernel
theorem dX4_spells_28 : decode cX4_spells 28 = .ok (.invokevirtual 95, 3) := by decide +kernel
theorem dX4_spells_31 : decode cX4_spells 31 = .ok (.if_icmp .ge 29, 3) := by decide +kernel
theorem dX4_spells_34 : decode cX4_spells 34 = .ok (.aload_n 0, 1) := by decide +kernel
theorem dX4_spells_35 : decode cX4_spells 35 = .ok (.getfield 9, 3) := by decide +kernel
theorem dX4_spells_38 : decode cX4_spells 38 = .ok (.iload_n 2, 1) := by decide +kernel
theorem dX4_spells_39 : decode cX4_spells 39 = .ok (.iload 4, 2) := by decide +kernel
theorem dX4_spells_41 : decode cX4_spells 41 = .ok (.iadd, 1) := by decide +kernel
theorem dX4_spells_42 : decode cX4_spells 42 = .ok (.iaload, 1) := by decide +kernel
theorem dX4_spells_43 : decode cX4_spells 43 = .ok (.aload_n 1, 1) := by decide +kernel
theorem dX4_spells_44 : decode cX4_spells 44 = .ok (.iload 4, 2) := by decide +kernel
theorem dX4_spells_46 : decode cX4_spells 46 = .ok (.invokevirtual 100, 3) := by decide +kernel
theorem dX4_spells_49 : decode cX4_spells 49 = .ok (.if_icmp .eq 5, 3) := by decide +kernel
theorem dX4_spells_52 : decode cX4_spells 52 = .ok (.iconst 0, 1) := by decide +kernel
theorem dX4_spells_53 : decode cX4_spells 53 = .ok (.ireturn, 1) := by decide +kernel
theorem dX4_spells_54 : decode cX4_spells 54 = .ok (.iinc 4 1, 3) := by decide +kernel
theorem dX4_spells_57 : decode cX4_spells 57 = .ok (.goto (-32), 3) := by decide +kernel
theorem dX4_spells_60 : decode cX4_spells 60 = .ok (.iconst 1, 1) := by decide +kernel
theorem dX4_spells_61 : decode cX4_spells 61 = .ok (.ireturn, 1) := by decide +kernel
theorem dX4_readNumber_0 : decode cX4_readNumber 0 = .ok (.aload_n 0, 1) := by decide +kernel
theorem dX4_readNumber_1 : decode cX4_readNumber 1 = .ok (.getfield 37, 3) := by decide +kernel
theorem dX4_readNumber_4 : decode cX4_readNumber 4 = .ok (.bipush (-9), 2) := by decide +kernel
theorem dX4_readNumber_6 : decode cX4_readNumber 6 = .ok (.if_icmp .eq 5, 3) := by decide +kernel
theorem dX4_readNumber_9 : decode cX4_readNumber 9 = .ok (.iconst 0, 1) := by decide +kernel
theorem dX4_readNumber_10 : decode cX4_readNumber 10 = .ok (.ireturn, 1) := by decide +kernel
theorem dX4_readNumber_11 : decode cX4_readNumber 11 = .ok (.aload_n 0, 1) := by decide +kernel
theorem dX4_readNumber_12 : decode cX4_readNumber 12 = .ok (.invokevirtual 67, 3) := by decide +kernel
theorem dX4_readNumber_15 : decode cX4_readNumber 15 = .ok (.invokestatic 104, 3) := by decide +kernel
theorem dX4_readNumber_18 : decode cX4_readNumber 18 = .ok (.ifCond .ne 11, 3) := by decide +kernel
theorem dX4_readNumber_21 : decode cX4_readNumber 21 = .ok (.aload_n 0, 1) := by decide +kernel
theorem dX4_readNumber_22 : decode cX4_readNumber 22 = .ok (.aload_n 0, 1) := by decide +kernel
theorem dX4_readNumber_23 : decode cX4_readNumber 23 = .ok (.getfield 34, 3) := by decide +kernel
theorem dX4_readNumber_26 : decode cX4_readNumber 26 = .ok (.invokevirtual 70, 3) := by decide +kernel
theorem dX4_readNumber_29 : decode cX4_readNumber 29 = .ok (.iconst 0, 1) := by decide +kernel
theorem dX4_readNumber_30 : decode cX4_readNumber 30 = .ok (.istore_n 1, 1) := by decide +kernel
theorem dX4_readNumber_31 : decode cX4_readNumber 31 = .ok (.iconst 0, 1) := by decide +kernel
theorem dX4_readNumber_32 : decode cX4_readNumber 32 = .ok (.istore_n 2, 1) := by decide +kernel
theorem dX4_readNumber_33 : decode cX4_readNumber 33 = .ok (.iload_n 2, 1) := by decide +kernel
theorem dX4_readNumber_34 : decode cX4_readNumber 34 = .ok (.iconst 2, 1) := by decide +kernel
theorem dX4_readNumber_35 : decode cX4_readNumber 35 = .ok (.if_icmp .ge 42, 3) := by decide +kernel
theorem dX4_readNumber_38 : decode cX4_readNumber 38 = .ok (.aload_n 0, 1) := by decide +kernel
theorem dX4_readNumber_39 : decode cX4_readNumber 39 = .ok (.invokevirtual 67, 3) := by decide +kernel
theorem dX4_readNumber_42 : decode cX4_readNumber 42 = .ok (.invokestatic 104, 3) := by decide +kernel
theorem dX4_readNumber_45 : decode cX4_readNumber 45 = .ok (.ifCond .eq 32, 3) := by decide +kernel
theorem dX4_readNumber_48 : decode cX4_readNumber 48 = .ok (.bipush 10, 2) := by decide +kernel
theorem dX4_readNumber_50 : decode cX4_readNumber 50 = .ok (.iload_n 1, 1) := by decide +kernel
theorem dX4_readNumber_51 : decode cX4_readNumber 51 = .ok (.imul, 1) := by decide +kernel
theorem dX4_readNumber_52 : decode cX4_readNumber 52 = .ok (.aload_n 0, 1) := by decide +kernel
theorem dX4_readNumber_53 : decode cX4_readNumber 53 = .ok (.invokevirtual 67, 3) := by decide +kernel
theorem dX4_readNumber_56 : decode cX4_readNumber 56 = .ok (.iadd, 1) := by decide +kernel
theorem dX4_readNumber_57 : decode cX4_readNumber 57 = .ok (.bipush 48, 2) := by decide +kernel
theorem dX4_readNumber_59 : decode cX4_readNumber 59 = .ok (.isub, 1) := by decide +kernel
theorem dX4_readNumber_60 : decode cX4_readNumber 60 = .ok (.istore_n 1, 1) := by decide +kernel
theorem dX4_readNumber_61 : decode cX4_readNumber 61 = .ok (.aload_n 0, 1) := by decide +kernel
theorem dX4_readNumber_62 : decode cX4_readNumber 62 = .ok (.dup, 1) := by decide +kernel
theorem dX4_readNumber_63 : decode cX4_readNumber 63 = .ok (.getfield 34, 3) := by decide +kernel
theorem dX4_readNumber_66 : decode cX4_readNumber 66 = .ok (.iconst 1, 1) := by decide +kernel
theorem dX4_readNumber_67 : decode cX4_readNumber 67 = .ok (.iadd, 1) := by decide +kernel
theorem dX4_readNumber_68 : decode cX4_readNumber 68 = .ok (.putfield 34, 3) := by decide +kernel
theorem dX4_readNumber_71 : decode cX4_readNumber 71 = .ok (.iinc 2 1, 3) := by decide +kernel
theorem dX4_readNumber_74 : decode cX4_readNumber 74 = .ok (.goto (-41), 3) := by decide +kernel
theorem dX4_readNumber_77 : decode cX4_readNumber 77 = .ok (.iload_n 1, 1) := by decide +kernel
theorem dX4_readNumber_78 : decode cX4_readNumber 78 = .ok (.ireturn, 1) := by decide +kernel
theorem dX4_readItem_0 : decode cX4_readItem 0 = .ok (.aload_n 0, 1) := by decide +kernel
theorem dX4_readItem_1 : decode cX4_readItem 1 = .ok (.getfield 37, 3) := by decide +kernel
theorem dX4_readItem_4 : decode cX4_readItem 4 = .ok (.bipush (-9), 2) := by decide +kernel
theorem dX4_readItem_6 : decode cX4_readItem 6 = .ok (.if_icmp .eq 5, 3) := by decide +kernel
theorem dX4_readItem_9 : decode cX4_readItem 9 = .ok (.iconst 0, 1) := by decide +kernel
theorem dX4_readItem_10 : decode cX4_readItem 10 = .ok (.ireturn, 1) := by decide +kernel
theorem dX4_readItem_11 : decode cX4_readItem 11 = .ok (.aload_n 0, 1) := by decide +kernel
theorem dX4_readItem_12 : decode cX4_readItem 12 = .ok (.invokevirtual 67, 3) := by decide +kernel
theorem dX4_readItem_15 : decode cX4_readItem 15 = .ok (.invokestatic 73, 3) := by decide +kernel
theorem dX4_readItem_18 : decode cX4_readItem 18 = .ok (.ifCond .ne 13, 3) := by decide +kernel
theorem dX4_readItem_21 : decode cX4_readItem 21 = .ok (.aload_n 0, 1) := by decide +kernel
theorem dX4_readItem_22 : decode cX4_readItem 22 = .ok (.aload_n 0, 1) := by decide +kernel
theorem dX4_readItem_23 : decode cX4_readItem 23 = .ok (.getfield 34, 3) := by decide +kernel
theorem dX4_readItem_26 : decode cX4_readItem 26 = .ok (.invokevirtual 70, 3) := by decide +kernel
theorem dX4_readItem_29 : decode cX4_readItem 29 = .ok (.iconst 0, 1) := by decide +kernel
theorem dX4_readItem_30 : decode cX4_readItem 30 = .ok (.ireturn, 1) := by decide +kernel
theorem dX4_readItem_31 : decode cX4_readItem 31 = .ok (.aload_n 0, 1) := by decide +kernel
theorem dX4_readItem_32 : decode cX4_readItem 32 = .ok (.invokevirtual 67, 3) := by decide +kernel
theorem dX4_readItem_35 : decode cX4_readItem 35 = .ok (.bipush 97, 2) := by decide +kernel
theorem dX4_readItem_37 : decode cX4_readItem 37 = .ok (.isub, 1) := by decide +kernel
theorem dX4_readItem_38 : decode cX4_readItem 38 = .ok (.istore_n 1, 1) := by decide +kernel
theorem dX4_readItem_39 : decode cX4_readItem 39 = .ok (.aload_n 0, 1) := by decide +kernel
theorem dX4_readItem_40 : decode cX4_readItem 40 = .ok (.dup, 1) := by decide +kernel
theorem dX4_readItem_41 : decode cX4_readItem 41 = .ok (.getfield 34, 3) := by decide +kernel
theorem dX4_readItem_44 : decode cX4_readItem 44 = .ok (.iconst 1, 1) := by decide +kernel
theorem dX4_readItem_45 : decode cX4_readItem 45 = .ok (.iadd, 1) := by decide +kernel
theorem dX4_readItem_46 : decode cX4_readItem 46 = .ok (.putfield 34, 3) := by decide +kernel
theorem dX4_readItem_49 : decode cX4_readItem 49 = .ok (.iload_n 1, 1) := by decide +kernel
theorem dX4_readItem_50 : decode cX4_readItem 50 = .ok (.ireturn, 1) := by decide +kernel
theorem dX4_readSet_0 : decode cX4_readSet 0 = .ok (.iconst 1, 1) := by decide +kernel
theorem dX4_readSet_1 : decode cX4_readSet 1 = .ok (.aload_n 0, 1) := by decide +kernel
theorem dX4_readSet_2 : decode cX4_readSet 2 = .ok (.invokevirtual 58, 3) := by decide +kernel
theorem dX4_readSet_5 : decode cX4_readSet 5 = .ok (.ishl, 1) := by decide +kernel
theorem dX4_readSet_6 : decode cX4_readSet 6 = .ok (.bipush 63, 2) := by decide +kernel
theorem dX4_readSet_8 : decode cX4_readSet 8 = .ok (.iand, 1) := by decide +kernel
theorem dX4_readSet_9 : decode cX4_readSet 9 = .ok (.istore_n 1, 1) := by decide +kernel
theorem dX4_readSet_10 : decode cX4_readSet 10 = .ok (.iload_n 1, 1) := by decide +kernel
theorem dX4_readSet_11 : decode cX4_readSet 11 = .ok (.ifCond .eq 7, 3) := by decide +kernel
theorem dX4_readSet_14 : decode cX4_readSet 14 = .ok (.iconst 1, 1) := by decide +kernel
theorem dX4_readSet_15 : decode cX4_readSet 15 = .ok (.goto 4, 3) := by decide +kernel
theorem dX4_readSet_18 : decode cX4_readSet 18 = .ok (.iconst 0, 1) := by decide +kernel
theorem dX4_readSet_19 : decode cX4_readSet 19 = .ok (.istore_n 2, 1) := by decide +kernel
theorem dX4_readSet_20 : decode cX4_readSet 20 = .ok (.iconst 0, 1) := by decide +kernel
theorem dX4_readSet_21 : decode cX4_readSet 21 = .ok (.istore_n 3, 1) := by decide +kernel
theorem dX4_readSet_22 : decode cX4_readSet 22 = .ok (.iload_n 3, 1) := by decide +kernel
theorem dX4_readSet_23 : decode cX4_readSet 23 = .ok (.bipush 96, 2) := by decide +kernel
theorem dX4_readSet_25 : decode cX4_readSet 25 = .ok (.if_icmp .ge 63, 3) := by decide +kernel
theorem dX4_readSet_28 : decode cX4_readSet 28 = .ok (.aload_n 0, 1) := by decide +kernel
theorem dX4_readSet_29 : decode cX4_readSet 29 = .ok (.getfield 37, 3) := by decide +kernel
theorem dX4_readSet_32 : decode cX4_readSet 32 = .ok (.bipush (-9), 2) := by decide +kernel
theorem dX4_readSet_34 : decode cX4_readSet 34 = .ok (.if_icmp .ne 54, 3) := by decide +kernel
theorem dX4_readSet_37 : decode cX4_readSet 37 = .ok (.aload_n 0, 1) := by decide +kernel
theorem dX4_readSet_38 : decode cX4_readSet 38 = .ok (.invokevirtual 67, 3) := by decide +kernel
theorem dX4_readSet_41 : decode cX4_readSet 41 = .ok (.invokestatic 73, 3) := by decide +kernel
theorem dX4_readSet_44 : decode cX4_readSet 44 = .ok (.ifCond .eq 44, 3) := by decide +kernel
theorem dX4_readSet_47 : decode cX4_readSet 47 = .ok (.iconst 1, 1) := by decide +kernel
theorem dX4_readSet_48 : decode cX4_readSet 48 = .ok (.aload_n 0, 1) := by decide +kernel
theorem dX4_readSet_49 : decode cX4_readSet 49 = .ok (.invokevirtual 58, 3) := by decide +kernel
theorem dX4_readSet_52 : decode cX4_readSet 52 = .ok (.ishl, 1) := by decide +kernel
theorem dX4_readSet_53 : decode cX4_readSet 53 = .ok (.bipush 63, 2) := by decide +kernel
theorem dX4_readSet_55 : decode cX4_readSet 55 = .ok (.iand, 1) := by decide +kernel
theorem dX4_readSet_56 : decode cX4_readSet 56 = .ok (.iload_n 1, 1) := by decide +kernel
theorem dX4_readSet_57 : decode cX4_readSet 57 = .ok (.iconst (-1), 1) := by decide +kernel
theorem dX4_readSet_58 : decode cX4_readSet 58 = .ok (.ixor, 1) := by decide +kernel
theorem dX4_readSet_59 : decode cX4_readSet 59 = .ok (.iand, 1) := by decide +kernel
theorem dX4_readSet_60 : decode cX4_readSet 60 = .ok (.istore 4, 2) := by decide +kernel
theorem dX4_readSet_62 : decode cX4_readSet 62 = .ok (.iload_n 2, 1) := by decide +kernel
theorem dX4_readSet_63 : decode cX4_readSet 63 = .ok (.ifCond .eq 12, 3) := by decide +kernel
theorem dX4_readSet_66 : decode cX4_readSet 66 = .ok (.iload 4, 2) := by decide +kernel
theorem dX4_readSet_68 : decode cX4_readSet 68 = .ok (.ifCond .eq 7, 3) := by decide +kernel
theorem dX4_readSet_71 : decode cX4_readSet 71 = .ok (.iconst 1, 1) := by decide +kernel
theorem dX4_readSet_72 : decode cX4_readSet 72 = .ok (.goto 4, 3) := by decide +kernel
theorem dX4_readSet_75 : decode cX4_readSet 75 = .ok (.iconst 0, 1) := by decide +kernel
theorem dX4_readSet_76 : decode cX4_readSet 76 = .ok (.istore_n 2, 1) := by decide +kernel
theorem dX4_readSet_77 : decode cX4_readSet 77 = .ok (.iload_n 1, 1) := by decide +kernel
theorem dX4_readSet_78 : decode cX4_readSet 78 = .ok (.iload 4, 2) := by decide +kernel
theorem dX4_readSet_80 : decode cX4_readSet 80 = .ok (.ior, 1) := by decide +kernel
theorem dX4_readSet_81 : decode cX4_readSet 81 = .ok (.istore_n 1, 1) := by decide +kernel
theorem dX4_readSet_82 : decode cX4_readSet 82 = .ok (.iinc 3 1, 3) := by decide +kernel
theorem dX4_readSet_85 : decode cX4_readSet 85 = .ok (.goto (-63), 3) := by decide +kernel
theorem dX4_readSet_88 : decode cX4_readSet 88 = .ok (.iload_n 2, 1) := by decide +kernel
theorem dX4_readSet_89 : decode cX4_readSet 89 = .ok (.ifCond .eq 7, 3) := by decide +kernel
theorem dX4_readSet_92 : decode cX4_readSet 92 = .ok (.iload_n 1, 1) := by decide +kernel
theorem dX4_readSet_93 : decode cX4_readSet 93 = .ok (.goto 4, 3) := by decide +kernel
theorem dX4_readSet_96 : decode cX4_readSet 96 = .ok (.iconst (-1), 1) := by decide +kernel
theorem dX4_readSet_97 : decode cX4_readSet 97 = .ok (.ireturn, 1) := by decide +kernel
theorem dX4_obey_0 : decode cX4_obey 0 = .ok (.iconst 0, 1) := by decide +kernel
theorem dX4_obey_1 : decode cX4_obey 1 = .ok (.istore_n 2, 1) := by decide +kernel
theorem dX4_obey_2 : decode cX4_obey 2 = .ok (.iload_n 2, 1) := by decide +kernel
theorem dX4_obey_3 : decode cX4_obey 3 = .ok (.aload_n 0, 1) := by decide +kernel
theorem dX4_obey_4 : decode cX4_obey 4 = .ok (.getfield 40, 3) := by decide +kernel
theorem dX4_obey_7 : decode cX4_obey 7 = .ok (.if_icmp .ge 59, 3) := by decide +kernel
theorem dX4_obey_10 : decode cX4_obey 10 = .ok (.iload_n 2, 1) := by decide +kernel
theorem dX4_obey_11 : decode cX4_obey 11 = .ok (.bipush 16, 2) := by decide +kernel
theorem dX4_obey_13 : decode cX4_obey 13 = .ok (.if_icmp .ge 53, 3) := by decide +kernel
theorem dX4_obey_16 : decode cX4_obey 16 = .ok (.aload_n 0, 1) := by decide +kernel
theorem dX4_obey_17 : decode cX4_obey 17 = .ok (.aload_n 1, 1) := by decide +kernel
theorem dX4_obey_18 : decode cX4_obey 18 = .ok (.iload_n 2, 1) := by decide +kernel
theorem dX4_obey_19 : decode cX4_obey 19 = .ok (.invokevirtual 107, 3) := by decide +kernel
theorem dX4_obey_22 : decode cX4_obey 22 = .ok (.ifCond .ne 10, 3) := by decide +kernel
theorem dX4_obey_25 : decode cX4_obey 25 = .ok (.aload_n 0, 1) := by decide +kernel
theorem dX4_obey_26 : decode cX4_obey 26 = .ok (.getfield 15, 3) := by decide +kernel
theorem dX4_obey_29 : decode cX4_obey 29 = .ok (.iload_n 2, 1) := by decide +kernel
theorem dX4_obey_30 : decode cX4_obey 30 = .ok (.iaload, 1) := by decide +kernel
theorem dX4_obey_31 : decode cX4_obey 31 = .ok (.ireturn, 1) := by decide +kernel
theorem dX4_obey_32 : decode cX4_obey 32 = .ok (.aload_n 1, 1) := by decide +kernel
theorem dX4_obey_33 : decode cX4_obey 33 = .ok (.aload_n 0, 1) := by decide +kernel
theorem dX4_obey_34 : decode cX4_obey 34 = .ok (.getfield 18, 3) := by decide +kernel
theorem dX4_obey_37 : decode cX4_obey 37 = .ok (.iload_n 2, 1) := by decide +kernel
theorem dX4_obey_38 : decode cX4_obey 38 = .ok (.iaload, 1) := by decide +kernel
theorem dX4_obey_39 : decode cX4_obey 39 = .ok (.aload_n 0, 1) := by decide +kernel
theorem dX4_obey_40 : decode cX4_obey 40 = .ok (.getfield 21, 3) := by decide +kernel
theorem dX4_obey_43 : decode cX4_obey 43 = .ok (.iload_n 2, 1) := by decide +kernel
theorem dX4_obey_44 : decode cX4_obey 44 = .ok (.iaload, 1) := by decide +kernel
theorem dX4_obey_45 : decode cX4_obey 45 = .ok (.aload_n 0, 1) := by decide +kernel
theorem dX4_obey_46 : decode cX4_obey 46 = .ok (.getfield 24, 3) := by decide +kernel
theorem dX4_obey_49 : decode cX4_obey 49 = .ok (.iload_n 2, 1) := by decide +kernel
theorem dX4_obey_50 : decode cX4_obey 50 = .ok (.iaload, 1) := by decide +kernel
theorem dX4_obey_51 : decode cX4_obey 51 = .ok (.aload_n 0, 1) := by decide +kernel
theorem dX4_obey_52 : decode cX4_obey 52 = .ok (.getfield 27, 3) := by decide +kernel
theorem dX4_obey_55 : decode cX4_obey 55 = .ok (.iload_n 2, 1) := by decide +kernel
theorem dX4_obey_56 : decode cX4_obey 56 = .ok (.iaload, 1) := by decide +kernel
theorem dX4_obey_57 : decode cX4_obey 57 = .ok (.invokestatic 111, 3) := by decide +kernel
theorem dX4_obey_60 : decode cX4_obey 60 = .ok (.iinc 2 1, 3) := by decide +kernel
theorem dX4_obey_63 : decode cX4_obey 63 = .ok (.goto (-61), 3) := by decide +kernel
theorem dX4_obey_66 : decode cX4_obey 66 = .ok (.bipush (-9), 2) := by decide +kernel
theorem dX4_obey_68 : decode cX4_obey 68 = .ok (.ireturn, 1) := by decide +kernel
theorem dX4_isRight_0 : decode cX4_isRight 0 = .ok (.iload_n 2, 1) := by decide +kernel
theorem dX4_isRight_1 : decode cX4_isRight 1 = .ok (.ifCond .lt 9, 3) := by decide +kernel
theorem dX4_isRight_4 : decode cX4_isRight 4 = .ok (.iload_n 2, 1) := by decide +kernel
theorem dX4_isRight_5 : decode cX4_isRight 5 = .ok (.bipush 16, 2) := by decide +kernel
theorem dX4_isRight_7 : decode cX4_isRight 7 = .ok (.if_icmp .lt 5, 3) := by decide +kernel
theorem dX4_isRight_10 : decode cX4_isRight 10 = .ok (.iconst 0, 1) := by decide +kernel
theorem dX4_isRight_11 : decode cX4_isRight 11 = .ok (.ireturn, 1) := by decide +kernel
theorem dX4_isRight_12 : decode cX4_isRight 12 = .ok (.aload_n 0, 1) := by decide +kernel
theorem dX4_isRight_13 : decode cX4_isRight 13 = .ok (.getfield 18, 3) := by decide +kernel
theorem dX4_isRight_16 : decode cX4_isRight 16 = .ok (.iload_n 2, 1) := by decide +kernel
theorem dX4_isRight_17 : decode cX4_isRight 17 = .ok (.iaload, 1) := by decide +kernel
theorem dX4_isRight_18 : decode cX4_isRight 18 = .ok (.tableswitch 154 0 3 #[30, 74, 85, 125], 30) := by decide +kernel
theorem dX4_isRight_48 : decode cX4_isRight 48 = .ok (.aload_n 0, 1) := by decide +kernel
theorem dX4_isRight_49 : decode cX4_isRight 49 = .ok (.getfield 21, 3) := by decide +kernel
theorem dX4_isRight_52 : decode cX4_isRight 52 = .ok (.iload_n 2, 1) := by decide +kernel
theorem dX4_isRight_53 : decode cX4_isRight 53 = .ok (.iaload, 1) := by decide +kernel
theorem dX4_isRight_54 : decode cX4_isRight 54 = .ok (.invokestatic 115, 3) := by decide +kernel
theorem dX4_isRight_57 : decode cX4_isRight 57 = .ok (.ifCond .eq 33, 3) := by decide +kernel
theorem dX4_isRight_60 : decode cX4_isRight 60 = .ok (.aload_n 0, 1) := by decide +kernel
theorem dX4_isRight_61 : decode cX4_isRight 61 = .ok (.getfield 24, 3) := by decide +kernel
theorem dX4_isRight_64 : decode cX4_isRight 64 = .ok (.iload_n 2, 1) := by decide +kernel
theorem dX4_isRight_65 : decode cX4_isRight 65 = .ok (.iaload, 1) := by decide +kernel
theorem dX4_isRight_66 : decode cX4_isRight 66 = .ok (.iconst (-1), 1) := by decide +kernel
theorem dX4_isRight_67 : decode cX4_isRight 67 = .ok (.if_icmp .eq 23, 3) := by decide +kernel
theorem dX4_isRight_70 : decode cX4_isRight 70 = .ok (.aload_n 0, 1) := by decide +kernel
theorem dX4_isRight_71 : decode cX4_isRight 71 = .ok (.getfield 27, 3) := by decide +kernel
theorem dX4_isRight_74 : decode cX4_isRight 74 = .ok (.iload_n 2, 1) := by decide +kernel
theorem dX4_isRight_75 : decode cX4_isRight 75 = .ok (.iaload, 1) := by decide +kernel
theorem dX4_isRight_76 : decode cX4_isRight 76 = .ok (.ifCond .le 14, 3) := by decide +kernel
theorem dX4_isRight_79 : decode cX4_isRight 79 = .ok (.aload_n 1, 1) := by decide +kernel
theorem dX4_isRight_80 : decode cX4_isRight 80 = .ok (.invokevirtual 118, 3) := by decide +kernel
theorem dX4_isRight_83 : decode cX4_isRight 83 = .ok (.ifCond .ne 7, 3) := by decide +kernel
theorem dX4_isRight_86 : decode cX4_isRight 86 = .ok (.iconst 1, 1) := by decide +kernel
theorem dX4_isRight_87 : decode cX4_isRight 87 = .ok (.goto 4, 3) := by decide +kernel
theorem dX4_isRight_90 : decode cX4_isRight 90 = .ok (.iconst 0, 1) := by decide +kernel
theorem dX4_isRight_91 : decode cX4_isRight 91 = .ok (.ireturn, 1) := by decide +kernel
theorem dX4_isRight_92 : decode cX4_isRight 92 = .ok (.aload_n 1, 1) := by decide +kernel
theorem dX4_isRight_93 : decode cX4_isRight 93 = .ok (.aload_n 0, 1) := by decide +kernel
theorem dX4_isRight_94 : decode cX4_isRight 94 = .ok (.getfield 21, 3) := by decide +kernel
theorem dX4_isRight_97 : decode cX4_isRight 97 = .ok (.iload_n 2, 1) := by decide +kernel
theorem dX4_isRight_98 : decode cX4_isRight 98 = .ok (.iaload, 1) := by decide +kernel
theorem dX4_isRight_99 : decode cX4_isRight 99 = .ok (.invokevirtual 121, 3) := by decide +kernel
theorem dX4_isRight_102 : decode cX4_isRight 102 = .ok (.ireturn, 1) := by decide +kernel
theorem dX4_isRight_103 : decode cX4_isRight 103 = .ok (.aload_n 0, 1) := by decide +kernel
theorem dX4_isRight_104 : decode cX4_isRight 104 = .ok (.getfield 21, 3) := by decide +kernel
theorem dX4_isRight_107 : decode cX4_isRight 107 = .ok (.iload_n 2, 1) := by decide +kernel
theorem dX4_isRight_108 : decode cX4_isRight 108 = .ok (.iaload, 1) := by decide +kernel
theorem dX4_isRight_109 : decode cX4_isRight 109 = .ok (.invokestatic 115, 3) := by decide +kernel
theorem dX4_isRight_112 : decode cX4_isRight 112 = .ok (.ifCond .eq 29, 3) := by decide +kernel
theorem dX4_isRight_115 : decode cX4_isRight 115 = .ok (.aload_n 0, 1) := by decide +kernel
theorem dX4_isRight_116 : decode cX4_isRight 116 = .ok (.getfield 24, 3) := by decide +kernel
theorem dX4_isRight_119 : decode cX4_isRight 119 = .ok (.iload_n 2, 1) := by decide +kernel
theorem dX4_isRight_120 : decode cX4_isRight 120 = .ok (.iaload, 1) := by decide +kernel
theorem dX4_isRight_121 : decode cX4_isRight 121 = .ok (.bipush 6, 2) := by decide +kernel
theorem dX4_isRight_123 : decode cX4_isRight 123 = .ok (.if_icmp .ge 18, 3) := by decide +kernel
theorem dX4_isRight_126 : decode cX4_isRight 126 = .ok (.aload_n 0, 1) := by decide +kernel
theorem dX4_isRight_127 : decode cX4_isRight 127 = .ok (.getfield 27, 3) := by decide +kernel
theorem dX4_isRight_130 : decode cX4_isRight 130 = .ok (.iload_n 2, 1) := by decide +kernel
theorem dX4_isRight_131 : decode cX4_isRight 131 = .ok (.iaload, 1) := by decide +kernel
theorem dX4_isRight_132 : decode cX4_isRight 132 = .ok (.bipush 9, 2) := by decide +kernel
theorem dX4_isRight_134 : decode cX4_isRight 134 = .ok (.if_icmp .gt 7, 3) := by decide +kernel
theorem dX4_isRight_137 : decode cX4_isRight 137 = .ok (.iconst 1, 1) := by decide +kernel
theorem dX4_isRight_138 : decode cX4_isRight 138 = .ok (.goto 4, 3) := by decide +kernel
theorem dX4_isRight_141 : decode cX4_isRight 141 = .ok (.iconst 0, 1) := by decide +kernel
theorem dX4_isRight_142 : decode cX4_isRight 142 = .ok (.ireturn, 1) := by decide +kernel
theorem dX4_isRight_143 : decode cX4_isRight 143 = .ok (.aload_n 0, 1) := by decide +kernel
theorem dX4_isRight_144 : decode cX4_isRight 144 = .ok (.getfield 21, 3) := by decide +kernel
theorem dX4_isRight_147 : decode cX4_isRight 147 = .ok (.iload_n 2, 1) := by decide +kernel
theorem dX4_isRight_148 : decode cX4_isRight 148 = .ok (.iaload, 1) := by decide +kernel
theorem dX4_isRight_149 : decode cX4_isRight 149 = .ok (.invokestatic 124, 3) := by decide +kernel
theorem dX4_isRight_152 : decode cX4_isRight 152 = .ok (.ifCond .eq 18, 3) := by decide +kernel
theorem dX4_isRight_155 : decode cX4_isRight 155 = .ok (.aload_n 0, 1) := by decide +kernel
theorem dX4_isRight_156 : decode cX4_isRight 156 = .ok (.getfield 24, 3) := by decide +kernel
theorem dX4_isRight_159 : decode cX4_isRight 159 = .ok (.iload_n 2, 1) := by decide +kernel
theorem dX4_isRight_160 : decode cX4_isRight 160 = .ok (.iaload, 1) := by decide +kernel
theorem dX4_isRight_161 : decode cX4_isRight 161 = .ok (.bipush 9, 2) := by decide +kernel
theorem dX4_isRight_163 : decode cX4_isRight 163 = .ok (.if_icmp .gt 7, 3) := by decide +kernel
theorem dX4_isRight_166 : decode cX4_isRight 166 = .ok (.iconst 1, 1) := by decide +kernel
theorem dX4_isRight_167 : decode cX4_isRight 167 = .ok (.goto 4, 3) := by decide +kernel
theorem dX4_isRight_170 : decode cX4_isRight 170 = .ok (.iconst 0, 1) := by decide +kernel
theorem dX4_isRight_171 : decode cX4_isRight 171 = .ok (.ireturn, 1) := by decide +kernel
theorem dX4_isRight_172 : decode cX4_isRight 172 = .ok (.aload_n 1, 1) := by decide +kernel
theorem dX4_isRight_173 : decode cX4_isRight 173 = .ok (.aload_n 0, 1) := by decide +kernel
theorem dX4_isRight_174 : decode cX4_isRight 174 = .ok (.getfield 21, 3) := by decide +kernel
theorem dX4_isRight_177 : decode cX4_isRight 177 = .ok (.iload_n 2, 1) := by decide +kernel
theorem dX4_isRight_178 : decode cX4_isRight 178 = .ok (.iaload, 1) := by decide +kernel
theorem dX4_isRight_179 : decode cX4_isRight 179 = .ok (.invokevirtual 121, 3) := by decide +kernel
theorem dX4_isRight_182 : decode cX4_isRight 182 = .ok (.ifCond .eq 16, 3) := by decide +kernel
theorem dX4_isRight_185 : decode cX4_isRight 185 = .ok (.aload_n 0, 1) := by decide +kernel
theorem dX4_isRight_186 : decode cX4_isRight 186 = .ok (.getfield 24, 3) := by decide +kernel
theorem dX4_isRight_189 : decode cX4_isRight 189 = .ok (.iload_n 2, 1) := by decide +kernel
theorem dX4_isRight_190 : decode cX4_isRight 190 = .ok (.iaload, 1) := by decide +kernel
theorem dX4_isRight_191 : decode cX4_isRight 191 = .ok (.ifCond .le 7, 3) := by decide +kernel
theorem dX4_isRight_194 : decode cX4_isRight 194 = .ok (.iconst 1, 1) := by decide +kernel
theorem dX4_isRight_195 : decode cX4_isRight 195 = .ok (.goto 4, 3) := by decide +kernel
theorem dX4_isRight_198 : decode cX4_isRight 198 = .ok (.iconst 0, 1) := by decide +kernel
theorem dX4_isRight_199 : decode cX4_isRight 199 = .ok (.ireturn, 1) := by decide +kernel
theorem dX4_carryOut_0 : decode cX4_carryOut 0 = .ok (.iload_n 1, 1) := by decide +kernel
theorem dX4_carryOut_1 : decode cX4_carryOut 1 = .ok (.tableswitch 70 0 3 #[31, 42, 50, 61], 31) := by decide +kernel
theorem dX4_carryOut_32 : decode cX4_carryOut 32 = .ok (.aload_n 0, 1) := by decide +kernel
theorem dX4_carryOut_33 : decode cX4_carryOut 33 = .ok (.iload_n 2, 1) := by decide +kernel
theorem dX4_carryOut_34 : decode cX4_carryOut 34 = .ok (.iload_n 3, 1) := by decide +kernel
theorem dX4_carryOut_35 : decode cX4_carryOut 35 = .ok (.iload 4, 2) := by decide +kernel
theorem dX4_carryOut_37 : decode cX4_carryOut 37 = .ok (.invokevirtual 127, 3) := by decide +kernel
theorem dX4_carryOut_40 : decode cX4_carryOut 40 = .ok (.goto 37, 3) := by decide +kernel
theorem dX4_carryOut_43 : decode cX4_carryOut 43 = .ok (.aload_n 0, 1) := by decide +kernel
theorem dX4_carryOut_44 : decode cX4_carryOut 44 = .ok (.iload_n 2, 1) := by decide +kernel
theorem dX4_carryOut_45 : decode cX4_carryOut 45 = .ok (.invokevirtual 131, 3) := by decide +kernel
theorem dX4_carryOut_48 : decode cX4_carryOut 48 = .ok (.goto 29, 3) := by decide +kernel
theorem dX4_carryOut_51 : decode cX4_carryOut 51 = .ok (.aload_n 0, 1) := by decide +kernel
theorem dX4_carryOut_52 : decode cX4_carryOut 52 = .ok (.iload_n 2, 1) := by decide +kernel
theorem dX4_carryOut_53 : decode cX4_carryOut 53 = .ok (.iload_n 3, 1) := by decide +kernel
theorem dX4_carryOut_54 : decode cX4_carryOut 54 = .ok (.iload 4, 2) := by decide +kernel
theorem dX4_carryOut_56 : decode cX4_carryOut 56 = .ok (.invokevirtual 134, 3) := by decide +kernel
theorem dX4_carryOut_59 : decode cX4_carryOut 59 = .ok (.goto 18, 3) := by decide +kernel
theorem dX4_carryOut_62 : decode cX4_carryOut 62 = .ok (.aload_n 0, 1) := by decide +kernel
theorem dX4_carryOut_63 : decode cX4_carryOut 63 = .ok (.iload_n 2, 1) := by decide +kernel
theorem dX4_carryOut_64 : decode cX4_carryOut 64 = .ok (.iload_n 3, 1) := by decide +kernel
theorem dX4_carryOut_65 : decode cX4_carryOut 65 = .ok (.invokevirtual 137, 3) := by decide +kernel
theorem dX4_carryOut_68 : decode cX4_carryOut 68 = .ok (.goto 9, 3) := by decide +kernel
theorem dX4_carryOut_71 : decode cX4_carryOut 71 = .ok (.aload_n 0, 1) := by decide +kernel
theorem dX4_carryOut_72 : decode cX4_carryOut 72 = .ok (.iload_n 2, 1) := by decide +kernel
theorem dX4_carryOut_73 : decode cX4_carryOut 73 = .ok (.iload_n 3, 1) := by decide +kernel
theorem dX4_carryOut_74 : decode cX4_carryOut 74 = .ok (.invokevirtual 141, 3) := by decide +kernel
theorem dX4_carryOut_77 : decode cX4_carryOut 77 = .ok (.return_, 1) := by decide +kernel
theorem dX5_init_0 : decode cX5_init 0 = .ok (.aload_n 0, 1) := by decide +kernel
theorem dX5_init_1 : decode cX5_init 1 = .ok (.invokespecial 3, 3) := by decide +kernel
theorem dX5_init_4 : decode cX5_init 4 = .ok (.aload_n 0, 1) := by decide +kernel
theorem dX5_init_5 : decode cX5_init 5 = .ok (.bipush 10, 2) := by decide +kernel
theorem dX5_init_7 : decode cX5_init 7 = .ok (.newarray .int, 2) := by decide +kernel
theorem dX5_init_9 : decode cX5_init 9 = .ok (.putfield 9, 3) := by decide +kernel
theorem dX5_init_12 : decode cX5_init 12 = .ok (.aload_n 0, 1) := by decide +kernel
theorem dX5_init_13 : decode cX5_init 13 = .ok (.bipush 10, 2) := by decide +kernel
theorem dX5_init_15 : decode cX5_init 15 = .ok (.newarray .int, 2) := by decide +kernel
theorem dX5_init_17 : decode cX5_init 17 = .ok (.putfield 15, 3) := by decide +kernel
theorem dX5_init_20 : decode cX5_init 20 = .ok (.aload_n 0, 1) := by decide +kernel
theorem dX5_init_21 : decode cX5_init 21 = .ok (.iconst 0, 1) := by decide +kernel
theorem dX5_init_22 : decode cX5_init 22 = .ok (.putfield 18, 3) := by decide +kernel
theorem dX5_init_25 : decode cX5_init 25 = .ok (.aload_n 0, 1) := by decide +kernel
theorem dX5_init_26 : decode cX5_init 26 = .ok (.iconst 0, 1) := by decide +kernel
theorem dX5_init_27 : decode cX5_init 27 = .ok (.putfield 22, 3) := by decide +kernel
theorem dX5_init_30 : decode cX5_init 30 = .ok (.aload_n 0, 1) := by decide +kernel
theorem dX5_init_31 : decode cX5_init 31 = .ok (.iconst 0, 1) := by decide +kernel
theorem dX5_init_32 : decode cX5_init 32 = .ok (.putfield 25, 3) := by decide +kernel
theorem dX5_init_35 : decode cX5_init 35 = .ok (.return_, 1) := by decide +kernel
theorem dX5_lineUp_0 : decode cX5_lineUp 0 = .ok (.aload_n 0, 1) := by decide +kernel
theorem dX5_lineUp_1 : decode cX5_lineUp 1 = .ok (.iconst 0, 1) := by decide +kernel
theorem dX5_lineUp_2 : decode cX5_lineUp 2 = .ok (.putfield 18, 3) := by decide +kernel
theorem dX5_lineUp_5 : decode cX5_lineUp 5 = .ok (.iconst 0, 1) := by decide +kernel
theorem dX5_lineUp_6 : decode cX5_lineUp 6 = .ok (.istore_n 2, 1) := by decide +kernel
theorem dX5_lineUp_7 : decode cX5_lineUp 7 = .ok (.iload_n 2, 1) := by decide +kernel
theorem dX5_lineUp_8 : decode cX5_lineUp 8 = .ok (.aload_n 1, 1) := by decide +kernel
theorem dX5_lineUp_9 : decode cX5_lineUp 9 = .ok (.getfield 28, 3) := by decide +kernel
theorem dX5_lineUp_12 : decode cX5_lineUp 12 = .ok (.if_icmp .ge 65, 3) := by decide +kernel
theorem dX5_lineUp_15 : decode cX5_lineUp 15 = .ok (.iload_n 2, 1) := by decide +kernel
theorem dX5_lineUp_16 : decode cX5_lineUp 16 = .ok (.bipush 10, 2) := by decide +kernel
theorem dX5_lineUp_18 : decode cX5_lineUp 18 = .ok (.if_icmp .ge 59, 3) := by decide +kernel
theorem dX5_lineUp_21 : decode cX5_lineUp 21 = .ok (.aload_n 1, 1) := by decide +kernel
theorem dX5_lineUp_22 : decode cX5_lineUp 22 = .ok (.iload_n 2, 1) := by decide +kernel
theorem dX5_lineUp_23 : decode cX5_lineUp 23 = .ok (.invokevirtual 33, 3) := by decide +kernel
theorem dX5_lineUp_26 : decode cX5_lineUp 26 = .ok (.invokestatic 37, 3) := by decide +kernel
theorem dX5_lineUp_29 : decode cX5_lineUp 29 = .ok (.istore_n 3, 1) := by decide +kernel
theorem dX5_lineUp_30 : decode cX5_lineUp 30 = .ok (.aload_n 0, 1) := by decide +kernel
theorem dX5_lineUp_31 : decode cX5_lineUp 31 = .ok (.getfield 9, 3) := by decide +kernel
theorem dX5_lineUp_34 : decode cX5_lineUp 34 = .ok (.iload_n 2, 1) := by decide +kernel
theorem dX5_lineUp_35 : decode cX5_lineUp 35 = .ok (.iload_n 3, 1) := by decide +kernel
theorem dX5_lineUp_36 : decode cX5_lineUp 36 = .ok (.ifCond .ne 7, 3) := by decide +kernel
theorem dX5_lineUp_39 : decode cX5_lineUp 39 = .ok (.iconst 0, 1) := by decide +kernel
theorem dX5_lineUp_40 : decode cX5_lineUp 40 = .ok (.goto 13, 3) := by decide +kernel
theorem dX5_lineUp_43 : decode cX5_lineUp 43 = .ok (.bipush 60, 2) := by decide +kernel
theorem dX5_lineUp_45 : decode cX5_lineUp 45 = .ok (.aload_n 1, 1) := by decide +kernel
theorem dX5_lineUp_46 : decode cX5_lineUp 46 = .ok (.iload_n 2, 1) := by decide +kernel
theorem dX5_lineUp_47 : decode cX5_lineUp 47 = .ok (.invokevirtual 42, 3) := by decide +kernel
theorem dX5_lineUp_50 : decode cX5_lineUp 50 = .ok (.imul, 1) := by decide +kernel
theorem dX5_lineUp_51 : decode cX5_lineUp 51 = .ok (.iload_n 3, 1) := by decide +kernel
theorem dX5_lineUp_52 : decode cX5_lineUp 52 = .ok (.idiv, 1) := by decide +kernel
theorem dX5_lineUp_53 : decode cX5_lineUp 53 = .ok (.iastore, 1) := by decide +kernel
theorem dX5_lineUp_54 : decode cX5_lineUp 54 = .ok (.aload_n 1, 1) := by decide +kernel
theorem dX5_lineUp_55 : decode cX5_lineUp 55 = .ok (.getfield 45, 3) := by decide +kernel
theorem dX5_lineUp_58 : decode cX5_lineUp 58 = .ok (.iload_n 2, 1) := by decide +kernel
theorem dX5_lineUp_59 : decode cX5_lineUp 59 = .ok (.invokestatic 48, 3) := by decide +kernel
theorem dX5_lineUp_62 : decode cX5_lineUp 62 = .ok (.iconst 1, 1) := by decide +kernel
theorem dX5_lineUp_63 : decode cX5_lineUp 63 = .ok (.if_icmp .ne 8, 3) := by decide +kernel
theorem dX5_lineUp_66 : decode cX5_lineUp 66 = .ok (.aload_n 0, 1) := by decide +kernel
theorem dX5_lineUp_67 : decode cX5_lineUp 67 = .ok (.iload_n 2, 1) := by decide +kernel
theorem dX5_lineUp_68 : decode cX5_lineUp 68 = .ok (.invokevirtual 52, 3) := by decide +kernel
theorem dX5_lineUp_71 : decode cX5_lineUp 71 = .ok (.iinc 2 1, 3) := by decide +kernel
theorem dX5_lineUp_74 : decode cX5_lineUp 74 = .ok (.goto (-67), 3) := by decide +kernel
theorem dX5_lineUp_77 : decode cX5_lineUp 77 = .ok (.return_, 1) := by decide +kernel
theorem dX5_insert_0 : decode cX5_insert 0 = .ok (.aload_n 0, 1) := by decide +kernel
theorem dX5_insert_1 : decode cX5_insert 1 = .ok (.getfield 18, 3) := by decide +kernel
theorem dX5_insert_4 : decode cX5_insert 4 = .ok (.bipush 10, 2) := by decide +kernel
theorem dX5_insert_6 : decode cX5_insert 6 = .ok (.if_icmp .lt 4, 3) := by decide +kernel
theorem dX5_insert_9 : decode cX5_insert 9 = .ok (.return_, 1) := by decide +kernel
theorem dX5_insert_10 : decode cX5_insert 10 = .ok (.aload_n 0, 1) := by decide +kernel
theorem dX5_insert_11 : decode cX5_insert 11 = .ok (.getfield 18, 3) := by decide +kernel
theorem dX5_insert_14 : decode cX5_insert 14 = .ok (.istore_n 2, 1) := by decide +kernel
theorem dX5_insert_15 : decode cX5_insert 15 = .ok (.iload_n 2, 1) := by decide +kernel
theorem dX5_insert_16 : decode cX5_insert 16 = .ok (.ifCond .le 43, 3) := by decide +kernel
theorem dX5_insert_19 : decode cX5_insert 19 = .ok (.aload_n 0, 1) := by decide +kernel
theorem dX5_insert_20 : decode cX5_insert 20 = .ok (.aload_n 0, 1) := by decide +kernel
theorem dX5_insert_21 : decode cX5_insert 21 = .ok (.getfield 15, 3) := by decide +kernel
theorem dX5_insert_24 : decode cX5_insert 24 = .ok (.iload_n 2, 1) := by decide +kernel
theorem dX5_insert_25 : decode cX5_insert 25 = .ok (.iconst 1, 1) := by decide +kernel
theorem dX5_insert_26 : decode cX5_insert 26 = .ok (.isub, 1) := by decide +kernel
theorem dX5_insert_27 : decode cX5_insert 27 = .ok (.iaload, 1) := by decide +kernel
theorem dX5_insert_28 : decode cX5_insert 28 = .ok (.invokevirtual 56, 3) := by decide +kernel
theorem dX5_insert_31 : decode cX5_insert 31 = .ok (.aload_n 0, 1) := by decide +kernel
theorem dX5_insert_32 : decode cX5_insert 32 = .ok (.iload_n 1, 1) := by decide +kernel
theorem dX5_insert_33 : decode cX5_insert 33 = .ok (.invokevirtual 56, 3) := by decide +kernel
theorem dX5_insert_36 : decode cX5_insert 36 = .ok (.if_icmp .ge 23, 3) := by decide +kernel
theorem dX5_insert_39 : decode cX5_insert 39 = .ok (.aload_n 0, 1) := by decide +kernel
theorem dX5_insert_40 : decode cX5_insert 40 = .ok (.getfield 15, 3) := by decide +kernel
theorem dX5_insert_43 : decode cX5_insert 43 = .ok (.iload_n 2, 1) := by decide +kernel
theorem dX5_insert_44 : decode cX5_insert 44 = .ok (.aload_n 0, 1) := by decide +kernel
theorem dX5_insert_45 : decode cX5_insert 45 = .ok (.getfield 15, 3) := by decide +kernel
theorem dX5_insert_48 : decode cX5_insert 48 = .ok (.iload_n 2, 1) := by decide +kernel
theorem dX5_insert_49 : decode cX5_insert 49 = .ok (.iconst 1, 1) := by decide +kernel
theorem dX5_insert_50 : decode cX5_insert 50 = .ok (.isub, 1) := by decide +kernel
theorem dX5_insert_51 : decode cX5_insert 51 = .ok (.iaload, 1) := by decide +kernel
theorem dX5_insert_52 : decode cX5_insert 52 = .ok (.iastore, 1) := by decide +kernel
theorem dX5_insert_53 : decode cX5_insert 53 = .ok (.iinc 2 (-1), 3) := by decide +kernel
theorem dX5_insert_56 : decode cX5_insert 56 = .ok (.goto (-41), 3) := by decide +kernel
theorem dX5_insert_59 : decode cX5_insert 59 = .ok (.aload_n 0, 1) := by decide +kernel
theorem dX5_insert_60 : decode cX5_insert 60 = .ok (.getfield 15, 3) := by decide +kernel
theorem dX5_insert_63 : decode cX5_insert 63 = .ok (.iload_n 2, 1) := by decide +kernel
theorem dX5_insert_64 : decode cX5_insert 64 = .ok (.iload_n 1, 1) := by decide +kernel
theorem dX5_insert_65 : decode cX5_insert 65 = .ok (.iastore, 1) := by decide +kernel
theorem dX5_insert_66 : decode cX5_insert 66 = .ok (.aload_n 0, 1) := by decide +kernel
theorem dX5_insert_67 : decode cX5_insert 67 = .ok (.dup, 1) := by decide +kernel
theorem dX5_insert_68 : decode cX5_insert 68 = .ok (.getfield 18, 3) := by decide +kernel
theorem dX5_insert_71 : decode cX5_insert 71 = .ok (.iconst 1, 1) := by decide +kernel
theorem dX5_insert_72 : decode cX5_insert 72 = .ok (.iadd, 1) := by decide +kernel
theorem dX5_insert_73 : decode cX5_insert 73 = .ok (.putfield 18, 3) := by decide +kernel
theorem dX5_insert_76 : decode cX5_insert 76 = .ok (.return_, 1) := by decide +kernel
theorem dX5_bidAt_0 : decode cX5_bidAt 0 = .ok (.iload_n 1, 1) := by decide +kernel
theorem dX5_bidAt_1 : decode cX5_bidAt 1 = .ok (.ifCond .lt 26, 3) := by decide +kernel
theorem dX5_bidAt_4 : decode cX5_bidAt 4 = .ok (.iload_n 1, 1) := by decide +kernel
theorem dX5_bidAt_5 : decode cX5_bidAt 5 = .ok (.aload_n 0, 1) := by decide +kernel
theorem dX5_bidAt_6 : decode cX5_bidAt 6 = .ok (.getfield 18, 3) := by decide +kernel
theorem dX5_bidAt_9 : decode cX5_bidAt 9 = .ok (.if_icmp .ge 18, 3) := by decide +kernel
theorem dX5_bidAt_12 : decode cX5_bidAt 12 = .ok (.iload_n 1, 1) := by decide +kernel
theorem dX5_bidAt_13 : decode cX5_bidAt 13 = .ok (.bipush 10, 2) := by decide +kernel
theorem dX5_bidAt_15 : decode cX5_bidAt 15 = .ok (.if_icmp .ge 12, 3) := by decide +kernel
theorem dX5_bidAt_18 : decode cX5_bidAt 18 = .ok (.aload_n 0, 1) := by decide +kernel
theorem dX5_bidAt_19 : decode cX5_bidAt 19 = .ok (.getfield 15, 3) := by decide +kernel
theorem dX5_bidAt_22 : decode cX5_bidAt 22 = .ok (.iload_n 1, 1) := by decide +kernel
theorem dX5_bidAt_23 : decode cX5_bidAt 23 = .ok (.iaload, 1) := by decide +kernel
theorem dX5_bidAt_24 : decode cX5_bidAt 24 = .ok (.goto 5, 3) := by decide +kernel
theorem dX5_bidAt_27 : decode cX5_bidAt 27 = .ok (.bipush (-9), 2) := by decide +kernel
theorem dX5_bidAt_29 : decode cX5_bidAt 29 = .ok (.ireturn, 1) := by decide +kernel
theorem dX5_shareOf_0 : decode cX5_shareOf 0 = .ok (.iload_n 1, 1) := by decide +kernel
theorem dX5_shareOf_1 : decode cX5_shareOf 1 = .ok (.ifCond .lt 18, 3) := by decide +kernel
theorem dX5_shareOf_4 : decode cX5_shareOf 4 = .ok (.iload_n 1, 1) := by decide +kernel
theorem dX5_shareOf_5 : decode cX5_shareOf 5 = .ok (.bipush 10, 2) := by decide +kernel
theorem dX5_shareOf_7 : decode cX5_shareOf 7 = .ok (.if_icmp .ge 12, 3) := by decide +kernel
theorem dX5_shareOf_10 : decode cX5_shareOf 10 = .ok (.aload_n 0, 1) := by decide +kernel
theorem dX5_shareOf_11 : decode cX5_shareOf 11 = .ok (.getfield 9, 3) := by decide +kernel
theorem dX5_shareOf_14 : decode cX5_shareOf 14 = .ok (.iload_n 1, 1) := by decide +kernel
theorem dX5_shareOf_15 : decode cX5_shareOf 15 = .ok (.iaload, 1) := by decide +kernel
theorem dX5_shareOf_16 : decode cX5_shareOf 16 = .ok (.goto 4, 3) := by decide +kernel
theorem dX5_shareOf_19 : decode cX5_shareOf 19 = .ok (.iconst 0, 1) := by decide +kernel
theorem dX5_shareOf_20 : decode cX5_shareOf 20 = .ok (.ireturn, 1) := by decide +kernel
theorem dX5_placeOf_0 : decode cX5_placeOf 0 = .ok (.iconst 0, 1) := by decide +kernel
theorem dX5_placeOf_1 : decode cX5_placeOf 1 = .ok (.istore_n 2, 1) := by decide +kernel
theorem dX5_placeOf_2 : decode cX5_placeOf 2 = .ok (.iload_n 2, 1) := by decide +kernel
theorem dX5_placeOf_3 : decode cX5_placeOf 3 = .ok (.aload_n 0, 1) := by decide +kernel
theorem dX5_placeOf_4 : decode cX5_placeOf 4 = .ok (.getfield 18, 3) := by decide +kernel
theorem dX5_placeOf_7 : decode cX5_placeOf 7 = .ok (.if_icmp .ge 20, 3) := by decide +kernel
theorem dX5_placeOf_10 : decode cX5_placeOf 10 = .ok (.aload_n 0, 1) := by decide +kernel
theorem dX5_placeOf_11 : decode cX5_placeOf 11 = .ok (.iload_n 2, 1) := by decide +kernel
theorem dX5_placeOf_12 : decode cX5_placeOf 12 = .ok (.invokevirtual 59, 3) := by decide +kernel
theorem dX5_placeOf_15 : decode cX5_placeOf 15 = .ok (.iload_n 1, 1) := by decide +kernel
theorem dX5_placeOf_16 : decode cX5_placeOf 16 = .ok (.if_icmp .ne 5, 3) := by decide +kernel
theorem dX5_placeOf_19 : decode cX5_placeOf 19 = .ok (.iload_n 2, 1) := by decide +kernel
theorem dX5_placeOf_20 : decode cX5_placeOf 20 = .ok (.ireturn, 1) := by decide +kernel
theorem dX5_placeOf_21 : decode cX5_placeOf 21 = .ok (.iinc 2 1, 3) := by decide +kernel
theorem dX5_placeOf_24 : decode cX5_placeOf 24 = .ok (.goto (-22), 3) := by decide +kernel
theorem dX5_placeOf_27 : decode cX5_placeOf 27 = .ok (.bipush (-9), 2) := by decide +kernel
theorem dX5_placeOf_29 : decode cX5_placeOf 29 = .ok (.ireturn, 1) := by decide +kernel
theorem dX5_branchesOf_0 : decode cX5_branchesOf 0 = .ok (.aload_n 0, 1) := by decide +kernel
theorem dX5_branchesOf_1 : decode cX5_branchesOf 1 = .ok (.aload_n 1, 1) := by decide +kernel
theorem dX5_branchesOf_2 : decode cX5_branchesOf 2 = .ok (.invokevirtual 62, 3) := by decide +kernel
theorem dX5_branchesOf_5 : decode cX5_branchesOf 5 = .ok (.aload_n 0, 1) := by decide +kernel
theorem dX5_branchesOf_6 : decode cX5_branchesOf 6 = .ok (.iconst 0, 1) := by decide +kernel
theorem dX5_branchesOf_7 : decode cX5_branchesOf 7 = .ok (.putfield 22, 3) := by decide +kernel
theorem dX5_branchesOf_10 : decode cX5_branchesOf 10 = .ok (.aload_n 0, 1) := by decide +kernel
theorem dX5_branchesOf_11 : decode cX5_branchesOf 11 = .ok (.iconst 0, 1) := by decide +kernel
theorem dX5_branchesOf_12 : decode cX5_branchesOf 12 = .ok (.putfield 25, 3) := by decide +kernel
theorem dX5_branchesOf_15 : decode cX5_branchesOf 15 = .ok (.aload_n 0, 1) := by decide +kernel
theorem dX5_branchesOf_16 : decode cX5_branchesOf 16 = .ok (.aload_n 1, 1) := by decide +kernel
theorem dX5_branchesOf_17 : decode cX5_branchesOf 17 = .ok (.iconst 0, 1) := by decide +kernel
theorem dX5_branchesOf_18 : decode cX5_branchesOf 18 = .ok (.iconst 0, 1) := by decide +kernel
theorem dX5_branchesOf_19 : decode cX5_branchesOf 19 = .ok (.invokestatic 66, 3) := by decide +kernel
theorem dX5_branchesOf_22 : decode cX5_branchesOf 22 = .ok (.aload_n 0, 1) := by decide +kernel
theorem dX5_branchesOf_23 : decode cX5_branchesOf 23 = .ok (.getfield 22, 3) := by decide +kernel
theorem dX5_branchesOf_26 : decode cX5_branchesOf 26 = .ok (.ireturn, 1) := by decide +kernel
theorem dX5_look_0 : decode cX5_look 0 = .ok (.iload_n 2, 1) := by decide +kernel
theorem dX5_look_1 : decode cX5_look 1 = .ok (.ifCond .lt 9, 3) := by decide +kernel
theorem dX5_look_4 : decode cX5_look 4 = .ok (.iload_n 2, 1) := by decide +kernel
theorem dX5_look_5 : decode cX5_look 5 = .ok (.bipush 10, 2) := by decide +kernel
theorem dX5_look_7 : decode cX5_look 7 = .ok (.if_icmp .le 4, 3) := by decide +kernel
theorem dX5_look_10 : decode cX5_look 10 = .ok (.return_, 1) := by decide +kernel
theorem dX5_look_11 : decode cX5_look 11 = .ok (.aload_n 0, 1) := by decide +kernel
theorem dX5_look_12 : decode cX5_look 12 = .ok (.dup, 1) := by decide +kernel
theorem dX5_look_13 : decode cX5_look 13 = .ok (.getfield 22, 3) := by decide +kernel
theorem dX5_look_16 : decode cX5_look 16 = .ok (.iconst 1, 1) := by decide +kernel
theorem dX5_look_17 : decode cX5_look 17 = .ok (.iadd, 1) := by decide +kernel
theorem dX5_look_18 : decode cX5_look 18 = .ok (.putfield 22, 3) := by decide +kernel
theorem dX5_look_21 : decode cX5_look 21 = .ok (.aload_n 0, 1) := by decide +kernel
theorem dX5_look_22 : decode cX5_look 22 = .ok (.aload_n 1, 1) := by decide +kernel
theorem dX5_look_23 : decode cX5_look 23 = .ok (.iload_n 2, 1) := by decide +kernel
theorem dX5_look_24 : decode cX5_look 24 = .ok (.iload_n 3, 1) := by decide +kernel
theorem dX5_look_25 : decode cX5_look 25 = .ok (.invokevirtual 70, 3) := by decide +kernel
theorem dX5_look_28 : decode cX5_look 28 = .ok (.aload_n 0, 1) := by decide +kernel
theorem dX5_look_29 : decode cX5_look 29 = .ok (.getfield 25, 3) := by decide +kernel
theorem dX5_look_32 : decode cX5_look 32 = .ok (.if_icmp .ge 4, 3) := by decide +kernel
theorem dX5_look_35 : decode cX5_look 35 = .ok (.return_, 1) := by decide +kernel
theorem dX5_look_36 : decode cX5_look 36 = .ok (.iload_n 2, 1) := by decide +kernel
theorem dX5_look_37 : decode cX5_look 37 = .ok (.aload_n 0, 1) := by decide +kernel
theorem dX5_look_38 : decode cX5_look 38 = .ok (.getfield 18, 3) := by decide +kernel
theorem dX5_look_41 : decode cX5_look 41 = .ok (.if_icmp .lt 10, 3) := by decide +kernel
theorem dX5_look_44 : decode cX5_look 44 = .ok (.aload_n 0, 1) := by decide +kernel
theorem dX5_look_45 : decode cX5_look 45 = .ok (.aload_n 1, 1) := by decide +kernel
theorem dX5_look_46 : decode cX5_look 46 = .ok (.iload_n 3, 1) := by decide +kernel
theorem dX5_look_47 : decode cX5_look 47 = .ok (.invokevirtual 74, 3) := by decide +kernel
theorem dX5_look_50 : decode cX5_look 50 = .ok (.return_, 1) := by decide +kernel
theorem dX5_look_51 : decode cX5_look 51 = .ok (.aload_n 0, 1) := by decide +kernel
theorem dX5_look_52 : decode cX5_look 52 = .ok (.iload_n 2, 1) := by decide +kernel
theorem dX5_look_53 : decode cX5_look 53 = .ok (.invokevirtual 59, 3) := by decide +kernel
theorem dX5_look_56 : decode cX5_look 56 = .ok (.istore 4, 2) := by decide +kernel
theorem dX5_look_58 : decode cX5_look 58 = .ok (.aload_n 1, 1) := by decide +kernel
theorem dX5_look_59 : decode cX5_look 59 = .ok (.iload 4, 2) := by decide +kernel
theorem dX5_look_61 : decode cX5_look 61 = .ok (.invokevirtual 33, 3) := by decide +kernel
theorem dX5_look_64 : decode cX5_look 64 = .ok (.aload_n 1, 1) := by decide +kernel
theorem dX5_look_65 : decode cX5_look 65 = .ok (.iload_n 3, 1) := by decide +kernel
theorem dX5_look_66 : decode cX5_look 66 = .ok (.invokevirtual 78, 3) := by decide +kernel
theorem dX5_look_69 : decode cX5_look 69 = .ok (.iand, 1) := by decide +kernel
theorem dX5_look_70 : decode cX5_look 70 = .ok (.ifCond .ne 17, 3) := by decide +kernel
theorem dX5_look_73 : decode cX5_look 73 = .ok (.aload_n 0, 1) := by decide +kernel
theorem dX5_look_74 : decode cX5_look 74 = .ok (.aload_n 1, 1) := by decide +kernel
theorem dX5_look_75 : decode cX5_look 75 = .ok (.iload_n 2, 1) := by decide +kernel
theorem dX5_look_76 : decode cX5_look 76 = .ok (.iconst 1, 1) := by decide +kernel
theorem dX5_look_77 : decode cX5_look 77 = .ok (.iadd, 1) := by decide +kernel
theorem dX5_look_78 : decode cX5_look 78 = .ok (.iload_n 3, 1) := by decide +kernel
theorem dX5_look_79 : decode cX5_look 79 = .ok (.iconst 1, 1) := by decide +kernel
theorem dX5_look_80 : decode cX5_look 80 = .ok (.iload 4, 2) := by decide +kernel
theorem dX5_look_82 : decode cX5_look 82 = .ok (.ishl, 1) := by decide +kernel
theorem dX5_look_83 : decode cX5_look 83 = .ok (.ior, 1) := by decide +kernel
theorem dX5_look_84 : decode cX5_look 84 = .ok (.invokestatic 66, 3) := by decide +kernel
theorem dX5_look_87 : decode cX5_look 87 = .ok (.aload_n 0, 1) := by decide +kernel
theorem dX5_look_88 : decode cX5_look 88 = .ok (.aload_n 1, 1) := by decide +kernel
theorem dX5_look_89 : decode cX5_look 89 = .ok (.iload_n 2, 1) := by decide +kernel
theorem dX5_look_90 : decode cX5_look 90 = .ok (.iconst 1, 1) := by decide +kernel
theorem dX5_look_91 : decode cX5_look 91 = .ok (.iadd, 1) := by decide +kernel
theorem dX5_look_92 : decode cX5_look 92 = .ok (.iload_n 3, 1) := by decide +kernel
theorem dX5_look_93 : decode cX5_look 93 = .ok (.invokestatic 66, 3) := by decide +kernel
theorem dX5_look_96 : decode cX5_look 96 = .ok (.return_, 1) := by decide +kernel
theorem dX5_find_0 : decode cX5_find 0 = .ok (.aload_n 1, 1) := by decide +kernel
theorem dX5_find_1 : decode cX5_find 1 = .ok (.iload_n 2, 1) := by decide +kernel
theorem dX5_find_2 : decode cX5_find 2 = .ok (.invokevirtual 81, 3) := by decide +kernel
theorem dX5_find_5 : decode cX5_find 5 = .ok (.ifCond .eq 34, 3) := by decide +kernel
theorem dX5_find_8 : decode cX5_find 8 = .ok (.aload_n 1, 1) := by decide +kernel
theorem dX5_find_9 : decode cX5_find 9 = .ok (.iload_n 2, 1) := by decide +kernel
theorem dX5_find_10 : decode cX5_find 10 = .ok (.invokevirtual 85, 3) := by decide +kernel
theorem dX5_find_13 : decode cX5_find 13 = .ok (.aload_n 1, 1) := by decide +kernel
theorem dX5_find_14 : decode cX5_find 14 = .ok (.aload_n 1, 1) := by decide +kernel
theorem dX5_find_15 : decode cX5_find 15 = .ok (.iload_n 2, 1) := by decide +kernel
theorem dX5_find_16 : decode cX5_find 16 = .ok (.invokevirtual 78, 3) := by decide +kernel
theorem dX5_find_19 : decode cX5_find 19 = .ok (.invokevirtual 88, 3) := by decide +kernel
theorem dX5_find_22 : decode cX5_find 22 = .ok (.iadd, 1) := by decide +kernel
theorem dX5_find_23 : decode cX5_find 23 = .ok (.istore_n 3, 1) := by decide +kernel
theorem dX5_find_24 : decode cX5_find 24 = .ok (.aload_n 0, 1) := by decide +kernel
theorem dX5_find_25 : decode cX5_find 25 = .ok (.aload_n 0, 1) := by decide +kernel
theorem dX5_find_26 : decode cX5_find 26 = .ok (.getfield 25, 3) := by decide +kernel
theorem dX5_find_29 : decode cX5_find 29 = .ok (.bipush 60, 2) := by decide +kernel
theorem dX5_find_31 : decode cX5_find 31 = .ok (.iload_n 3, 1) := by decide +kernel
theorem dX5_find_32 : decode cX5_find 32 = .ok (.imul, 1) := by decide +kernel
theorem dX5_find_33 : decode cX5_find 33 = .ok (.invokestatic 91, 3) := by decide +kernel
theorem dX5_find_36 : decode cX5_find 36 = .ok (.putfield 25, 3) := by decide +kernel
theorem dX5_find_39 : decode cX5_find 39 = .ok (.return_, 1) := by decide +kernel
theorem dX5_bound_0 : decode cX5_bound 0 = .ok (.aload_n 1, 1) := by decide +kernel
theorem dX5_bound_1 : decode cX5_bound 1 = .ok (.iload_n 3, 1) := by decide +kernel
theorem dX5_bound_2 : decode cX5_bound 2 = .ok (.invokevirtual 78, 3) := by decide +kernel
theorem dX5_bound_5 : decode cX5_bound 5 = .ok (.istore 4, 2) := by decide +kernel
theorem dX5_bound_7 : decode cX5_bound 7 = .ok (.bipush 60, 2) := by decide +kernel
theorem dX5_bound_9 : decode cX5_bound 9 = .ok (.aload_n 1, 1) := by decide +kernel
theorem dX5_bound_10 : decode cX5_bound 10 = .ok (.iload_n 3, 1) := by decide +kernel
theorem dX5_bound_11 : decode cX5_bound 11 = .ok (.invokevirtual 85, 3) := by decide +kernel
theorem dX5_bound_14 : decode cX5_bound 14 = .ok (.imul, 1) := by decide +kernel
theorem dX5_bound_15 : decode cX5_bound 15 = .ok (.istore 5, 2) := by decide +kernel
theorem dX5_bound_17 : decode cX5_bound 17 = .ok (.iconst 0, 1) := by decide +kernel
theorem dX5_bound_18 : decode cX5_bound 18 = .ok (.istore 6, 2) := by decide +kernel
theorem dX5_bound_20 : decode cX5_bound 20 = .ok (.iload 6, 2) := by decide +kernel
theorem dX5_bound_22 : decode cX5_bound 22 = .ok (.bipush 6, 2) := by decide +kernel
theorem dX5_bound_24 : decode cX5_bound 24 = .ok (.if_icmp .ge 32, 3) := by decide +kernel
theorem dX5_bound_27 : decode cX5_bound 27 = .ok (.iload 4, 2) := by decide +kernel
theorem dX5_bound_29 : decode cX5_bound 29 = .ok (.iload 6, 2) := by decide +kernel
theorem dX5_bound_31 : decode cX5_bound 31 = .ok (.invokestatic 48, 3) := by decide +kernel
theorem dX5_bound_34 : decode cX5_bound 34 = .ok (.ifCond .ne 16, 3) := by decide +kernel
theorem dX5_bound_37 : decode cX5_bound 37 = .ok (.iload 5, 2) := by decide +kernel
theorem dX5_bound_39 : decode cX5_bound 39 = .ok (.aload_n 0, 1) := by decide +kernel
theorem dX5_bound_40 : decode cX5_bound 40 = .ok (.aload_n 1, 1) := by decide +kernel
theorem dX5_bound_41 : decode cX5_bound 41 = .ok (.iload_n 2, 1) := by decide +kernel
theorem dX5_bound_42 : decode cX5_bound 42 = .ok (.iload 6, 2) := by decide +kernel
theorem dX5_bound_44 : decode cX5_bound 44 = .ok (.invokevirtual 96, 3) := by decide +kernel
theorem dX5_bound_47 : decode cX5_bound 47 = .ok (.iadd, 1) := by decide +kernel
theorem dX5_bound_48 : decode cX5_bound 48 = .ok (.istore 5, 2) := by decide +kernel
theorem dX5_bound_50 : decode cX5_bound 50 = .ok (.iinc 6 1, 3) := by decide +kernel
theorem dX5_bound_53 : decode cX5_bound 53 = .ok (.goto (-33), 3) := by decide +kernel
theorem dX5_bound_56 : decode cX5_bound 56 = .ok (.iload 5, 2) := by decide +kernel
theorem dX5_bound_58 : decode cX5_bound 58 = .ok (.ireturn, 1) := by decide +kernel
theorem dX5_mostFor_0 : decode cX5_mostFor 0 = .ok (.bipush 60, 2) := by decide +kernel
theorem dX5_mostFor_2 : decode cX5_mostFor 2 = .ok (.aload_n 1, 1) := by decide +kernel
theorem dX5_mostFor_3 : decode cX5_mostFor 3 = .ok (.iload_n 3, 1) := by decide +kernel
theorem dX5_mostFor_4 : decode cX5_mostFor 4 = .ok (.invokevirtual 99, 3) := by decide +kernel
theorem dX5_mostFor_7 : decode cX5_mostFor 7 = .ok (.imul, 1) := by decide +kernel
theorem dX5_mostFor_8 : decode cX5_mostFor 8 = .ok (.istore 4, 2) := by decide +kernel
theorem dX5_mostFor_10 : decode cX5_mostFor 10 = .ok (.iload_n 2, 1) := by decide +kernel
theorem dX5_mostFor_11 : decode cX5_mostFor 11 = .ok (.istore 5, 2) := by decide +kernel
theorem dX5_mostFor_13 : decode cX5_mostFor 13 = .ok (.iload 5, 2) := by decide +kernel
theorem dX5_mostFor_15 : decode cX5_mostFor 15 = .ok (.aload_n 0, 1) := by decide +kernel
theorem dX5_mostFor_16 : decode cX5_mostFor 16 = .ok (.getfield 18, 3) := by decide +kernel
theorem dX5_mostFor_19 : decode cX5_mostFor 19 = .ok (.if_icmp .ge 44, 3) := by decide +kernel
theorem dX5_mostFor_22 : decode cX5_mostFor 22 = .ok (.aload_n 0, 1) := by decide +kernel
theorem dX5_mostFor_23 : decode cX5_mostFor 23 = .ok (.iload 5, 2) := by decide +kernel
theorem dX5_mostFor_25 : decode cX5_mostFor 25 = .ok (.invokevirtual 59, 3) := by decide +kernel
theorem dX5_mostFor_28 : decode cX5_mostFor 28 = .ok (.istore 6, 2) := by decide +kernel
theorem dX5_mostFor_30 : decode cX5_mostFor 30 = .ok (.aload_n 1, 1) := by decide +kernel
theorem dX5_mostFor_31 : decode cX5_mostFor 31 = .ok (.iload 6, 2) := by decide +kernel
theorem dX5_mostFor_33 : decode cX5_mostFor 33 = .ok (.invokevirtual 33, 3) := by decide +kernel
theorem dX5_mostFor_36 : decode cX5_mostFor 36 = .ok (.iload_n 3, 1) := by decide +kernel
theorem dX5_mostFor_37 : decode cX5_mostFor 37 = .ok (.invokestatic 48, 3) := by decide +kernel
theorem dX5_mostFor_40 : decode cX5_mostFor 40 = .ok (.iconst 1, 1) := by decide +kernel
theorem dX5_mostFor_41 : decode cX5_mostFor 41 = .ok (.if_icmp .ne 16, 3) := by decide +kernel
theorem dX5_mostFor_44 : decode cX5_mostFor 44 = .ok (.iload 4, 2) := by decide +kernel
theorem dX5_mostFor_46 : decode cX5_mostFor 46 = .ok (.aload_n 0, 1) := by decide +kernel
theorem dX5_mostFor_47 : decode cX5_mostFor 47 = .ok (.iload 6, 2) := by decide +kernel
theorem dX5_mostFor_49 : decode cX5_mostFor 49 = .ok (.invokevirtual 56, 3) := by decide +kernel
theorem dX5_mostFor_52 : decode cX5_mostFor 52 = .ok (.invokestatic 91, 3) := by decide +kernel
theorem dX5_mostFor_55 : decode cX5_mostFor 55 = .ok (.istore 4, 2) := by decide +kernel
theorem dX5_mostFor_57 : decode cX5_mostFor 57 = .ok (.iinc 5 1, 3) := by decide +kernel
theorem dX5_mostFor_60 : decode cX5_mostFor 60 = .ok (.goto (-47), 3) := by decide +kernel
theorem dX5_mostFor_63 : decode cX5_mostFor 63 = .ok (.iload 4, 2) := by decide +kernel
theorem dX5_mostFor_65 : decode cX5_mostFor 65 = .ok (.ireturn, 1) := by decide +kernel
theorem dX6_init_0 : decode cX6_init 0 = .ok (.aload_n 0, 1) := by decide +kernel
theorem dX6_init_1 : decode cX6_init 1 = .ok (.invokespecial 1, 3) := by decide +kernel
theorem dX6_init_4 : decode cX6_init 4 = .ok (.aload_n 0, 1) := by decide +kernel
theorem dX6_init_5 : decode cX6_init 5 = .ok (.new 7, 3) := by decide +kernel
theorem dX6_init_8 : decode cX6_init 8 = .ok (.dup, 1) := by decide +kernel
theorem dX6_init_9 : decode cX6_init 9 = .ok (.invokespecial 9, 3) := by decide +kernel
theorem dX6_init_12 : decode cX6_init 12 = .ok (.putfield 10, 3) := by decide +kernel
theorem dX6_init_15 : decode cX6_init 15 = .ok (.aload_n 0, 1) := by decide +kernel
theorem dX6_init_16 : decode cX6_init 16 = .ok (.new 7, 3) := by decide +kernel
theorem dX6_init_19 : decode cX6_init 19 = .ok (.dup, 1) := by decide +kernel
theorem dX6_init_20 : decode cX6_init 20 = .ok (.invokespecial 9, 3) := by decide +kernel
theorem dX6_init_23 : decode cX6_init 23 = .ok (.putfield 16, 3) := by decide +kernel
theorem dX6_init_26 : decode cX6_init 26 = .ok (.aload_n 0, 1) := by decide +kernel
theorem dX6_init_27 : decode cX6_init 27 = .ok (.new 7, 3) := by decide +kernel
theorem dX6_init_30 : decode cX6_init 30 = .ok (.dup, 1) := by decide +kernel
theorem dX6_init_31 : decode cX6_init 31 = .ok (.invokespecial 9, 3) := by decide +kernel
theorem dX6_init_34 : decode cX6_init 34 = .ok (.putfield 19, 3) := by decide +kernel
theorem dX6_init_37 : decode cX6_init 37 = .ok (.aload_n 0, 1) := by decide +kernel
theorem dX6_init_38 : decode cX6_init 38 = .ok (.new 22, 3) := by decide +kernel
theorem dX6_init_41 : decode cX6_init 41 = .ok (.dup, 1) := by decide +kernel
theorem dX6_init_42 : decode cX6_init 42 = .ok (.invokespecial 24, 3) := by decide +kernel
theorem dX6_init_45 : decode cX6_init 45 = .ok (.putfield 25, 3) := by decide +kernel
theorem dX6_init_48 : decode cX6_init 48 = .ok (.aload_n 0, 1) := by decide +kernel
theorem dX6_init_49 : decode cX6_init 49 = .ok (.new 29, 3) := by decide +kernel
theorem dX6_init_52 : decode cX6_init 52 = .ok (.dup, 1) := by decide +kernel
theorem dX6_init_53 : decode cX6_init 53 = .ok (.invokespecial 31, 3) := by decide +kernel
theorem dX6_init_56 : decode cX6_init 56 = .ok (.putfield 32, 3) := by decide +kernel
theorem dX6_init_59 : decode cX6_init 59 = .ok (.aload_n 0, 1) := by decide +kernel
theorem dX6_init_60 : decode cX6_init 60 = .ok (.new 36, 3) := by decide +kernel
theorem dX6_init_63 : decode cX6_init 63 = .ok (.dup, 1) := by decide +kernel
theorem dX6_init_64 : decode cX6_init 64 = .ok (.invokespecial 38, 3) := by decide +kernel
theorem dX6_init_67 : decode cX6_init 67 = .ok (.putfield 39, 3) := by decide +kernel
theorem dX6_init_70 : decode cX6_init 70 = .ok (.aload_n 0, 1) := by decide +kernel
theorem dX6_init_71 : decode cX6_init 71 = .ok (.new 43, 3) := by decide +kernel
theorem dX6_init_74 : decode cX6_init 74 = .ok (.dup, 1) := by decide +kernel
theorem dX6_init_75 : decode cX6_init 75 = .ok (.invokespecial 45, 3) := by decide +kernel
theorem dX6_init_78 : decode cX6_init 78 = .ok (.putfield 46, 3) := by decide +kernel
theorem dX6_init_81 : decode cX6_init 81 = .ok (.aload_n 0, 1) := by decide +kernel
theorem dX6_init_82 : decode cX6_init 82 = .ok (.new 50, 3) := by decide +kernel
theorem dX6_init_85 : decode cX6_init 85 = .ok (.dup, 1) := by decide +kernel
theorem dX6_init_86 : decode cX6_init 86 = .ok (.invokespecial 52, 3) := by decide +kernel
theorem dX6_init_89 : decode cX6_init 89 = .ok (.putfield 53, 3) := by decide +kernel
theorem dX6_init_92 : decode cX6_init 92 = .ok (.aload_n 0, 1) := by decide +kernel
theorem dX6_init_93 : decode cX6_init 93 = .ok (.iconst 5, 1) := by decide +kernel
theorem dX6_init_94 : decode cX6_init 94 = .ok (.newarray .int, 2) := by decide +kernel
theorem dX6_init_96 : decode cX6_init 96 = .ok (.putfield 57, 3) := by decide +kernel
theorem dX6_init_99 : decode cX6_init 99 = .ok (.aload_n 0, 1) := by decide +kernel
theorem dX6_init_100 : decode cX6_init 100 = .ok (.bipush 7, 2) := by decide +kernel
theorem dX6_init_102 : decode cX6_init 102 = .ok (.newarray .int, 2) := by decide +kernel
theorem dX6_init_104 : decode cX6_init 104 = .ok (.putfield 61, 3) := by decide +kernel
theorem dX6_init_107 : decode cX6_init 107 = .ok (.aload_n 0, 1) := by decide +kernel
theorem dX6_init_108 : decode cX6_init 108 = .ok (.iconst 0, 1) := by decide +kernel
theorem dX6_init_109 : decode cX6_init 109 = .ok (.putfield 64, 3) := by decide +kernel
theorem dX6_init_112 : decode cX6_init 112 = .ok (.aload_n 0, 1) := by decide +kernel
theorem dX6_init_113 : decode cX6_init 113 = .ok (.iconst 0, 1) := by decide +kernel
theorem dX6_init_114 : decode cX6_init 114 = .ok (.putfield 68, 3) := by decide +kernel
theorem dX6_init_117 : decode cX6_init 117 = .ok (.return_, 1) := by decide +kernel
theorem dX6_letter_0 : decode cX6_letter 0 = .ok (.iload_n 1, 1) := by decide +kernel
theorem dX6_letter_1 : decode cX6_letter 1 = .ok (.ifCond .ge 10, 3) := by decide +kernel
theorem dX6_letter_4 : decode cX6_letter 4 = .ok (.aload_n 0, 1) := by decide +kernel
theorem dX6_letter_5 : decode cX6_letter 5 = .ok (.bipush (-4), 2) := by decide +kernel
theorem dX6_letter_7 : decode cX6_letter 7 = .ok (.invokevirtual 72, 3) := by decide +kernel
theorem dX6_letter_10 : decode cX6_letter 10 = .ok (.ireturn, 1) := by decide +kernel
theorem dX6_letter_11 : decode cX6_letter 11 = .ok (.iload_n 1, 1) := by decide +kernel
theorem dX6_letter_12 : decode cX6_letter 12 = .ok (.sipush 255, 3) := by decide +kernel
theorem dX6_letter_15 : decode cX6_letter 15 = .ok (.if_icmp .gt 13, 3) := by decide +kernel
theorem dX6_letter_18 : decode cX6_letter 18 = .ok (.aload_n 0, 1) := by decide +kernel
theorem dX6_letter_19 : decode cX6_letter 19 = .ok (.getfield 46, 3) := by decide +kernel
theorem dX6_letter_22 : decode cX6_letter 22 = .ok (.invokevirtual 76, 3) := by decide +kernel
theorem dX6_letter_25 : decode cX6_letter 25 = .ok (.ifCond .eq 10, 3) := by decide +kernel
theorem dX6_letter_28 : decode cX6_letter 28 = .ok (.aload_n 0, 1) := by decide +kernel
theorem dX6_letter_29 : decode cX6_letter 29 = .ok (.bipush (-6), 2) := by decide +kernel
theorem dX6_letter_31 : decode cX6_letter 31 = .ok (.invokevirtual 72, 3) := by decide +kernel
theorem dX6_letter_34 : decode cX6_letter 34 = .ok (.ireturn, 1) := by decide +kernel
theorem dX6_letter_35 : decode cX6_letter 35 = .ok (.aload_n 0, 1) := by decide +kernel
theorem dX6_letter_36 : decode cX6_letter 36 = .ok (.getfield 46, 3) := by decide +kernel
theorem dX6_letter_39 : decode cX6_letter 39 = .ok (.iload_n 1, 1) := by decide +kernel
theorem dX6_letter_40 : decode cX6_letter 40 = .ok (.invokevirtual 80, 3) := by decide +kernel
theorem dX6_letter_43 : decode cX6_letter 43 = .ok (.ireturn, 1) := by decide +kernel
theorem dX6_auction_0 : decode cX6_auction 0 = .ok (.aload_n 0, 1) := by decide +kernel
theorem dX6_auction_1 : decode cX6_auction 1 = .ok (.getfield 46, 3) := by decide +kernel
theorem dX6_auction_4 : decode cX6_auction 4 = .ok (.invokevirtual 83, 3) := by decide +kernel
theorem dX6_auction_7 : decode cX6_auction 7 = .ok (.istore_n 1, 1) := by decide +kernel
theorem dX6_auction_8 : decode cX6_auction 8 = .ok (.iload_n 1, 1) := by decide +kernel
theorem dX6_auction_9 : decode cX6_auction 9 = .ok (.bipush (-9), 2) := by decide +kernel
theorem dX6_auction_11 : decode cX6_auction 11 = .ok (.if_icmp .ne 10, 3) := by decide +kernel
theorem dX6_auction_14 : decode cX6_auction 14 = .ok (.aload_n 0, 1) := by decide +kernel
theorem dX6_auction_15 : decode cX6_auction 15 = .ok (.invokevirtual 87, 3) := by decide +kernel
theorem dX6_auction_18 : decode cX6_auction 18 = .ok (.goto 8, 3) := by decide +kernel
theorem dX6_auction_21 : decode cX6_auction 21 = .ok (.sipush (-1000), 3) := by decide +kernel
theorem dX6_auction_24 : decode cX6_auction 24 = .ok (.iload_n 1, 1) := by decide +kernel
theorem dX6_auction_25 : decode cX6_auction 25 = .ok (.isub, 1) := by decide +kernel
theorem dX6_auction_26 : decode cX6_auction 26 = .ok (.istore_n 2, 1) := by decide +kernel
theorem dX6_auction_27 : decode cX6_auction 27 = .ok (.aload_n 0, 1) := by decide +kernel
theorem dX6_auction_28 : decode cX6_auction 28 = .ok (.getfield 46, 3) := by decide +kernel
theorem dX6_auction_31 : decode cX6_auction 31 = .ok (.invokevirtual 90, 3) := by decide +kernel
theorem dX6_auction_34 : decode cX6_auction 34 = .ok (.iload_n 2, 1) := by decide +kernel
theorem dX6_auction_35 : decode cX6_auction 35 = .ok (.ireturn, 1) := by decide +kernel
theorem dX6_bids_0 : decode cX6_bids 0 = .ok (.iload_n 1, 1) := by decide +kernel
theorem dX6_bids_1 : decode cX6_bids 1 = .ok (.invokestatic 93, 3) := by decide +kernel
theorem dX6_bids_4 : decode cX6_bids 4 = .ok (.ifCond .ne 9, 3) := by decide +kernel
theorem dX6_bids_7 : decode cX6_bids 7 = .ok (.aload_n 0, 1) := by decide +kernel
theorem dX6_bids_8 : decode cX6_bids 8 = .ok (.iconst (-1), 1) := by decide +kernel
theorem dX6_bids_9 : decode cX6_bids 9 = .ok (.invokevirtual 72, 3) := by decide +kernel
theorem dX6_bids_12 : decode cX6_bids 12 = .ok (.ireturn, 1) := by decide +kernel
theorem dX6_bids_13 : decode cX6_bids 13 = .ok (.iload_n 2, 1) := by decide +kernel
theorem dX6_bids_14 : decode cX6_bids 14 = .ok (.iconst 1, 1) := by decide +kernel
theorem dX6_bids_15 : decode cX6_bids 15 = .ok (.if_icmp .lt 8, 3) := by decide +kernel
theorem dX6_bids_18 : decode cX6_bids 18 = .ok (.iload_n 3, 1) := by decide +kernel
theorem dX6_bids_19 : decode cX6_bids 19 = .ok (.iconst 1, 1) := by decide +kernel
theorem dX6_bids_20 : decode cX6_bids 20 = .ok (.if_icmp .ge 10, 3) := by decide +kernel
theorem dX6_bids_23 : decode cX6_bids 23 = .ok (.aload_n 0, 1) := by decide +kernel
theorem dX6_bids_24 : decode cX6_bids 24 = .ok (.bipush (-4), 2) := by decide +kernel
theorem dX6_bids_26 : decode cX6_bids 26 = .ok (.invokevirtual 72, 3) := by decide +kernel
theorem dX6_bids_29 : decode cX6_bids 29 = .ok (.ireturn, 1) := by decide +kernel
theorem dX6_bids_30 : decode cX6_bids 30 = .ok (.iload_n 2, 1) := by decide +kernel
theorem dX6_bids_31 : decode cX6_bids 31 = .ok (.bipush 63, 2) := by decide +kernel
theorem dX6_bids_33 : decode cX6_bids 33 = .ok (.if_icmp .gt 19, 3) := by decide +kernel
theorem dX6_bids_36 : decode cX6_bids 36 = .ok (.iload_n 3, 1) := by decide +kernel
theorem dX6_bids_37 : decode cX6_bids 37 = .ok (.bipush 99, 2) := by decide +kernel
theorem dX6_bids_39 : decode cX6_bids 39 = .ok (.if_icmp .gt 13, 3) := by decide +kernel
theorem dX6_bids_42 : decode cX6_bids 42 = .ok (.aload_n 0, 1) := by decide +kernel
theorem dX6_bids_43 : decode cX6_bids 43 = .ok (.getfield 10, 3) := by decide +kernel
theorem dX6_bids_46 : decode cX6_bids 46 = .ok (.invokevirtual 97, 3) := by decide +kernel
theorem dX6_bids_49 : decode cX6_bids 49 = .ok (.ifCond .eq 10, 3) := by decide +kernel
theorem dX6_bids_52 : decode cX6_bids 52 = .ok (.aload_n 0, 1) := by decide +kernel
theorem dX6_bids_53 : decode cX6_bids 53 = .ok (.bipush (-6), 2) := by decide +kernel
theorem dX6_bids_55 : decode cX6_bids 55 = .ok (.invokevirtual 72, 3) := by decide +kernel
theorem dX6_bids_58 : decode cX6_bids 58 = .ok (.ireturn, 1) := by decide +kernel
theorem dX6_bids_59 : decode cX6_bids 59 = .ok (.aload_n 0, 1) := by decide +kernel
theorem dX6_bids_60 : decode cX6_bids 60 = .ok (.getfield 10, 3) := by decide +kernel
theorem dX6_bids_63 : decode cX6_bids 63 = .ok (.iload_n 1, 1) := by decide +kernel
theorem dX6_bids_64 : decode cX6_bids 64 = .ok (.iload_n 2, 1) := by decide +kernel
theorem dX6_bids_65 : decode cX6_bids 65 = .ok (.iload_n 3, 1) := by decide +kernel
theorem dX6_bids_66 : decode cX6_bids 66 = .ok (.invokevirtual 98, 3) := by decide +kernel
theorem dX6_bids_69 : decode cX6_bids 69 = .ok (.aload_n 0, 1) := by decide +kernel
theorem dX6_bids_70 : decode cX6_bids 70 = .ok (.getfield 10, 3) := by decide +kernel
theorem dX6_bids_73 : decode cX6_bids 73 = .ok (.getfield 102, 3) := by decide +kernel
theorem dX6_bids_76 : decode cX6_bids 76 = .ok (.iconst 1, 1) := by decide +kernel
theorem dX6_bids_77 : decode cX6_bids 77 = .ok (.isub, 1) := by decide +kernel
theorem dX6_bids_78 : decode cX6_bids 78 = .ok (.ireturn, 1) := by decide +kernel
theorem dX6_turns_0 : decode cX6_turns 0 = .ok (.aload_n 0, 1) := by decide +kernel
theorem dX6_turns_1 : decode cX6_turns 1 = .ok (.getfield 10, 3) := by decide +kernel
theorem dX6_turns_4 : decode cX6_turns 4 = .ok (.iload_n 1, 1) := by decide +kernel
theorem dX6_turns_5 : decode cX6_turns 5 = .ok (.invokevirtual 105, 3) := by decide +kernel
theorem dX6_turns_8 : decode cX6_turns 8 = .ok (.ifCond .ne 9, 3) := by decide +kernel
theorem dX6_turns_11 : decode cX6_turns 11 = .ok (.aload_n 0, 1) := by decide +kernel
theorem dX6_turns_12 : decode cX6_turns 12 = .ok (.iconst (-1), 1) := by decide +kernel
theorem dX6_turns_13 : decode cX6_turns 13 = .ok (.invokevirtual 72, 3) := by decide +kernel
theorem dX6_turns_16 : decode cX6_turns 16 = .ok (.ireturn, 1) := by decide +kernel
theorem dX6_turns_17 : decode cX6_turns 17 = .ok (.aload_n 0, 1) := by decide +kernel
theorem dX6_turns_18 : decode cX6_turns 18 = .ok (.getfield 10, 3) := by decide +kernel
theorem dX6_turns_21 : decode cX6_turns 21 = .ok (.iload_n 1, 1) := by decide +kernel
theorem dX6_turns_22 : decode cX6_turns 22 = .ok (.invokevirtual 108, 3) := by decide +kernel
theorem dX6_turns_25 : decode cX6_turns 25 = .ok (.aload_n 0, 1) := by decide +kernel
theorem dX6_turns_26 : decode cX6_turns 26 = .ok (.getfield 10, 3) := by decide +kernel
theorem dX6_turns_29 : decode cX6_turns 29 = .ok (.getfield 112, 3) := by decide +kernel
theorem dX6_turns_32 : decode cX6_turns 32 = .ok (.iload_n 1, 1) := by decide +kernel
theorem dX6_turns_33 : decode cX6_turns 33 = .ok (.invokestatic 115, 3) := by decide +kernel
theorem dX6_turns_36 : decode cX6_turns 36 = .ok (.ireturn, 1) := by decide +kernel
theorem dX6_price_0 : decode cX6_price 0 = .ok (.aload_n 0, 1) := by decide +kernel
theorem dX6_price_1 : decode cX6_price 1 = .ok (.getfield 10, 3) := by decide +kernel
theorem dX6_price_4 : decode cX6_price 4 = .ok (.iload_n 1, 1) := by decide +kernel
theorem dX6_price_5 : decode cX6_price 5 = .ok (.invokevirtual 105, 3) := by decide +kernel
theorem dX6_price_8 : decode cX6_price 8 = .ok (.ifCond .ne 9, 3) := by decide +kernel
theorem dX6_price_11 : decode cX6_price 11 = .ok (.aload_n 0, 1) := by decide +kernel
theorem dX6_price_12 : decode cX6_price 12 = .ok (.iconst (-1), 1) := by decide +kernel
theorem dX6_price_13 : decode cX6_price 13 = .ok (.invokevirtual 72, 3) := by decide +kernel
theorem dX6_price_16 : decode cX6_price 16 = .ok (.ireturn, 1) := by decide +kernel
theorem dX6_price_17 : decode cX6_price 17 = .ok (.iload_n 2, 1) := by decide +kernel
theorem dX6_price_18 : decode cX6_price 18 = .ok (.iconst 1, 1) := by decide +kernel
theorem dX6_price_19 : decode cX6_price 19 = .ok (.if_icmp .ge 10, 3) := by decide +kernel
theorem dX6_price_22 : decode cX6_price 22 = .ok (.aload_n 0, 1) := by decide +kernel
theorem dX6_price_23 : decode cX6_price 23 = .ok (.bipush (-4), 2) := by decide +kernel
theorem dX6_price_25 : decode cX6_price 25 = .ok (.invokevirtual 72, 3) := by decide +kernel
theorem dX6_price_28 : decode cX6_price 28 = .ok (.ireturn, 1) := by decide +kernel
theorem dX6_price_29 : decode cX6_price 29 = .ok (.iload_n 2, 1) := by decide +kernel
theorem dX6_price_30 : decode cX6_price 30 = .ok (.bipush 99, 2) := by decide +kernel
theorem dX6_price_32 : decode cX6_price 32 = .ok (.if_icmp .le 10, 3) := by decide +kernel
theorem dX6_price_35 : decode cX6_price 35 = .ok (.aload_n 0, 1) := by decide +kernel
theorem dX6_price_36 : decode cX6_price 36 = .ok (.bipush (-6), 2) := by decide +kernel
theorem dX6_price_38 : decode cX6_price 38 = .ok (.invokevirtual 72, 3) := by decide +kernel
theorem dX6_price_41 : decode cX6_price 41 = .ok (.ireturn, 1) := by decide +kernel
theorem dX6_price_42 : decode cX6_price 42 = .ok (.aload_n 0, 1) := by decide +kernel
theorem dX6_price_43 : decode cX6_price 43 = .ok (.getfield 10, 3) := by decide +kernel
theorem dX6_price_46 : decode cX6_price 46 = .ok (.iload_n 1, 1) := by decide +kernel
theorem dX6_price_47 : decode cX6_price 47 = .ok (.invokevirtual 119, 3) := by decide +kernel
theorem dX6_price_50 : decode cX6_price 50 = .ok (.istore_n 3, 1) := by decide +kernel
theorem dX6_price_51 : decode cX6_price 51 = .ok (.aload_n 0, 1) := by decide +kernel
theorem dX6_price_52 : decode cX6_price 52 = .ok (.getfield 10, 3) := by decide +kernel
theorem dX6_price_55 : decode cX6_price 55 = .ok (.iload_n 1, 1) := by decide +kernel
theorem dX6_price_56 : decode cX6_price 56 = .ok (.iload_n 2, 1) := by decide +kernel
theorem dX6_price_57 : decode cX6_price 57 = .ok (.invokevirtual 122, 3) := by decide +kernel
theorem dX6_price_60 : decode cX6_price 60 = .ok (.iload_n 3, 1) := by decide +kernel
theorem dX6_price_61 : decode cX6_price 61 = .ok (.ireturn, 1) := by decide +kernel
theorem dX6_kind_0 : decode cX6_kind 0 = .ok (.iload_n 1, 1) := by decide +kernel
theorem dX6_kind_1 : decode cX6_kind 1 = .ok (.invokestatic 93, 3) := by decide +kernel
theorem dX6_kind_4 : decode cX6_kind 4 = .ok (.ifCond .ne 9, 3) := by decide +kernel
theorem dX6_kind_7 : decode cX6_kind 7 = .ok (.aload_n 0, 1) := by decide +kernel
theorem dX6_kind_8 : decode cX6_kind 8 = .ok (.iconst (-1), 1) := by decide +kernel
theorem dX6_kind_9 : decode cX6_kind 9 = .ok (.invokevirtual 72, 3) := by decide +kernel
theorem dX6_kind_12 : decode cX6_kind 12 = .ok (.ireturn, 1) := by decide +kernel
theorem dX6_kind_13 : decode cX6_kind 13 = .ok (.iload_n 2, 1) := by decide +kernel
theorem dX6_kind_14 : decode cX6_kind 14 = .ok (.ifCond .lt 9, 3) := by decide +kernel
theorem dX6_kind_17 : decode cX6_kind 17 = .ok (.iload_n 2, 1) := by decide +kernel
theorem dX6_kind_18 : decode cX6_kind 18 = .ok (.bipush 6, 2) := by decide +kernel
theorem dX6_kind_20 : decode cX6_kind 20 = .ok (.if_icmp .lt 10, 3) := by decide +kernel
theorem dX6_kind_23 : decode cX6_kind 23 = .ok (.aload_n 0, 1) := by decide +kernel
theorem dX6_kind_24 : decode cX6_kind 24 = .ok (.bipush (-2), 2) := by decide +kernel
theorem dX6_kind_26 : decode cX6_kind 26 = .ok (.invokevirtual 72, 3) := by decide +kernel
theorem dX6_kind_29 : decode cX6_kind 29 = .ok (.ireturn, 1) := by decide +kernel
theorem dX6_kind_30 : decode cX6_kind 30 = .ok (.iload_n 3, 1) := by decide +kernel
theorem dX6_kind_31 : decode cX6_kind 31 = .ok (.ifCond .ge 10, 3) := by decide +kernel
theorem dX6_kind_34 : decode cX6_kind 34 = .ok (.aload_n 0, 1) := by decide +kernel
theorem dX6_kind_35 : decode cX6_kind 35 = .ok (.bipush (-4), 2) := by decide +kernel
theorem dX6_kind_37 : decode cX6_kind 37 = .ok (.invokevirtual 72, 3) := by decide +kernel
theorem dX6_kind_40 : decode cX6_kind 40 = .ok (.ireturn, 1) := by decide +kernel
theorem dX6_kind_41 : decode cX6_kind 41 = .ok (.iload_n 3, 1) := by decide +kernel
theorem dX6_kind_42 : decode cX6_kind 42 = .ok (.bipush 9, 2) := by decide +kernel
theorem dX6_kind_44 : decode cX6_kind 44 = .ok (.if_icmp .le 10, 3) := by decide +kernel
theorem dX6_kind_47 : decode cX6_kind 47 = .ok (.aload_n 0, 1) := by decide +kernel
theorem dX6_kind_48 : decode cX6_kind 48 = .ok (.bipush (-6), 2) := by decide +kernel
theorem dX6_kind_50 : decode cX6_kind 50 = .ok (.invokevirtual 72, 3) := by decide +kernel
theorem dX6_kind_53 : decode cX6_kind 53 = .ok (.ireturn, 1) := by decide +kernel
theorem dX6_kind_54 : decode cX6_kind 54 = .ok (.bipush 10, 2) := by decide +kernel
theorem dX6_kind_56 : decode cX6_kind 56 = .ok (.aload_n 0, 1) := by decide +kernel
theorem dX6_kind_57 : decode cX6_kind 57 = .ok (.getfield 10, 3) := by decide +kernel
theorem dX6_kind_60 : decode cX6_kind 60 = .ok (.iload_n 1, 1) := by decide +kernel
theorem dX6_kind_61 : decode cX6_kind 61 = .ok (.invokevirtual 126, 3) := by decide +kernel
theorem dX6_kind_64 : decode cX6_kind 64 = .ok (.imul, 1) := by decide +kernel
theorem dX6_kind_65 : decode cX6_kind 65 = .ok (.aload_n 0, 1) := by decide +kernel
theorem dX6_kind_66 : decode cX6_kind 66 = .ok (.getfield 10, 3) := by decide +kernel
theorem dX6_kind_69 : decode cX6_kind 69 = .ok (.iload_n 1, 1) := by decide +kernel
theorem dX6_kind_70 : decode cX6_kind 70 = .ok (.invokevirtual 129, 3) := by decide +kernel
theorem dX6_kind_73 : decode cX6_kind 73 = .ok (.iadd, 1) := by decide +kernel
theorem dX6_kind_74 : decode cX6_kind 74 = .ok (.istore 4, 2) := by decide +kernel
theorem dX6_kind_76 : decode cX6_kind 76 = .ok (.aload_n 0, 1) := by decide +kernel
theorem dX6_kind_77 : decode cX6_kind 77 = .ok (.getfield 10, 3) := by decide +kernel
theorem dX6_kind_80 : decode cX6_kind 80 = .ok (.iload_n 1, 1) := by decide +kernel
theorem dX6_kind_81 : decode cX6_kind 81 = .ok (.iload_n 2, 1) := by decide +kernel
theorem dX6_kind_82 : decode cX6_kind 82 = .ok (.iload_n 3, 1) := by decide +kernel
theorem dX6_kind_83 : decode cX6_kind 83 = .ok (.invokevirtual 132, 3) := by decide +kernel
theorem dX6_kind_86 : decode cX6_kind 86 = .ok (.iload 4, 2) := by decide +kernel
theorem dX6_kind_88 : decode cX6_kind 88 = .ok (.ireturn, 1) := by decide +kernel
theorem dX6_keep_0 : decode cX6_keep 0 = .ok (.iload_n 1, 1) := by decide +kernel
theorem dX6_keep_1 : decode cX6_keep 1 = .ok (.invokestatic 135, 3) := by decide +kernel
theorem dX6_keep_4 : decode cX6_keep 4 = .ok (.ifCond .ne 9, 3) := by decide +kernel
theorem dX6_keep_7 : decode cX6_keep 7 = .ok (.aload_n 0, 1) := by decide +kernel
theorem dX6_keep_8 : decode cX6_keep 8 = .ok (.iconst (-1), 1) := by decide +kernel
theorem dX6_keep_9 : decode cX6_keep 9 = .ok (.invokevirtual 72, 3) := by decide +kernel
theorem dX6_keep_12 : decode cX6_keep 12 = .ok (.ireturn, 1) := by decide +kernel
theorem dX6_keep_13 : decode cX6_keep 13 = .ok (.iload_n 2, 1) := by decide +kernel
theorem dX6_keep_14 : decode cX6_keep 14 = .ok (.ifCond .ge 10, 3) := by decide +kernel
theorem dX6_keep_17 : decode cX6_keep 17 = .ok (.aload_n 0, 1) := by decide +kernel
theorem dX6_keep_18 : decode cX6_keep 18 = .ok (.bipush (-4), 2) := by decide +kernel
theorem dX6_keep_20 : decode cX6_keep 20 = .ok (.invokevirtual 72, 3) := by decide +kernel
theorem dX6_keep_23 : decode cX6_keep 23 = .ok (.ireturn, 1) := by decide +kernel
theorem dX6_keep_24 : decode cX6_keep 24 = .ok (.iload_n 2, 1) := by decide +kernel
theorem dX6_keep_25 : decode cX6_keep 25 = .ok (.bipush 9, 2) := by decide +kernel
theorem dX6_keep_27 : decode cX6_keep 27 = .ok (.if_icmp .le 10, 3) := by decide +kernel
theorem dX6_keep_30 : decode cX6_keep 30 = .ok (.aload_n 0, 1) := by decide +kernel
theorem dX6_keep_31 : decode cX6_keep 31 = .ok (.bipush (-6), 2) := by decide +kernel
theorem dX6_keep_33 : decode cX6_keep 33 = .ok (.invokevirtual 72, 3) := by decide +kernel
theorem dX6_keep_36 : decode cX6_keep 36 = .ok (.ireturn, 1) := by decide +kernel
theorem dX6_keep_37 : decode cX6_keep 37 = .ok (.aload_n 0, 1) := by decide +kernel
theorem dX6_keep_38 : decode cX6_keep 38 = .ok (.getfield 10, 3) := by decide +kernel
theorem dX6_keep_41 : decode cX6_keep 41 = .ok (.iload_n 1, 1) := by decide +kernel
theorem dX6_keep_42 : decode cX6_keep 42 = .ok (.invokevirtual 138, 3) := by decide +kernel
theorem dX6_keep_45 : decode cX6_keep 45 = .ok (.istore_n 3, 1) := by decide +kernel
theorem dX6_keep_46 : decode cX6_keep 46 = .ok (.aload_n 0, 1) := by decide +kernel
theorem dX6_keep_47 : decode cX6_keep 47 = .ok (.getfield 10, 3) := by decide +kernel
theorem dX6_keep_50 : decode cX6_keep 50 = .ok (.iload_n 1, 1) := by decide +kernel
theorem dX6_keep_51 : decode cX6_keep 51 = .ok (.iload_n 2, 1) := by decide +kernel
theorem dX6_keep_52 : decode cX6_keep 52 = .ok (.invokevirtual 141, 3) := by decide +kernel
theorem dX6_keep_55 : decode cX6_keep 55 = .ok (.iload_n 3, 1) := by decide +kernel
theorem dX6_keep_56 : decode cX6_keep 56 = .ok (.ireturn, 1) := by decide +kernel
theorem dX6_bid_0 : decode cX6_bid 0 = .ok (.aload_n 0, 1) := by decide +kernel
theorem dX6_bid_1 : decode cX6_bid 1 = .ok (.getfield 10, 3) := by decide +kernel
theorem dX6_bid_4 : decode cX6_bid 4 = .ok (.iload_n 1, 1) := by decide +kernel
theorem dX6_bid_5 : decode cX6_bid 5 = .ok (.invokevirtual 105, 3) := by decide +kernel
theorem dX6_bid_8 : decode cX6_bid 8 = .ok (.ifCond .ne 9, 3) := by decide +kernel
theorem dX6_bid_11 : decode cX6_bid 11 = .ok (.aload_n 0, 1) := by decide +kernel
theorem dX6_bid_12 : decode cX6_bid 12 = .ok (.iconst (-1), 1) := by decide +kernel
theorem dX6_bid_13 : decode cX6_bid 13 = .ok (.invokevirtual 72, 3) := by decide +kernel
theorem dX6_bid_16 : decode cX6_bid 16 = .ok (.ireturn, 1) := by decide +kernel
theorem dX6_bid_17 : decode cX6_bid 17 = .ok (.iload_n 2, 1) := by decide +kernel
theorem dX6_bid_18 : decode cX6_bid 18 = .ok (.tableswitch 110 0 5 #[38, 47, 56, 65, 77, 90], 38) := by decide +kernel
theorem dX6_bid_56 : decode cX6_bid 56 = .ok (.aload_n 0, 1) := by decide +kernel
theorem dX6_bid_57 : decode cX6_bid 57 = .ok (.getfield 10, 3) := by decide +kernel
theorem dX6_bid_60 : decode cX6_bid 60 = .ok (.iload_n 1, 1) := by decide +kernel
theorem dX6_bid_61 : decode cX6_bid 61 = .ok (.invokevirtual 144, 3) := by decide +kernel
theorem dX6_bid_64 : decode cX6_bid 64 = .ok (.ireturn, 1) := by decide +kernel
theorem dX6_bid_65 : decode cX6_bid 65 = .ok (.aload_n 0, 1) := by decide +kernel
theorem dX6_bid_66 : decode cX6_bid 66 = .ok (.getfield 10, 3) := by decide +kernel
theorem dX6_bid_69 : decode cX6_bid 69 = .ok (.iload_n 1, 1) := by decide +kernel
theorem dX6_bid_70 : decode cX6_bid 70 = .ok (.invokevirtual 147, 3) := by decide +kernel
theorem dX6_bid_73 : decode cX6_bid 73 = .ok (.ireturn, 1) := by decide +kernel
theorem dX6_bid_74 : decode cX6_bid 74 = .ok (.aload_n 0, 1) := by decide +kernel
theorem dX6_bid_75 : decode cX6_bid 75 = .ok (.getfield 10, 3) := by decide +kernel
theorem dX6_bid_78 : decode cX6_bid 78 = .ok (.iload_n 1, 1) := by decide +kernel
theorem dX6_bid_79 : decode cX6_bid 79 = .ok (.invokevirtual 119, 3) := by decide +kernel
theorem dX6_bid_82 : decode cX6_bid 82 = .ok (.ireturn, 1) := by decide +kernel
theorem dX6_bid_83 : decode cX6_bid 83 = .ok (.aload_n 0, 1) := by decide +kernel
theorem dX6_bid_84 : decode cX6_bid 84 = .ok (.getfield 10, 3) := by decide +kernel
theorem dX6_bid_87 : decode cX6_bid 87 = .ok (.getfield 112, 3) := by decide +kernel
theorem dX6_bid_90 : decode cX6_bid 90 = .ok (.iload_n 1, 1) := by decide +kernel
theorem dX6_bid_91 : decode cX6_bid 91 = .ok (.invokestatic 115, 3) := by decide +kernel
theorem dX6_bid_94 : decode cX6_bid 94 = .ok (.ireturn, 1) := by decide +kernel
theorem dX6_bid_95 : decode cX6_bid 95 = .ok (.aload_n 0, 1) := by decide +kernel
theorem dX6_bid_96 : decode cX6_bid 96 = .ok (.aload_n 0, 1) := by decide +kernel
theorem dX6_bid_97 : decode cX6_bid 97 = .ok (.getfield 10, 3) := by decide +kernel
theorem dX6_bid_100 : decode cX6_bid 100 = .ok (.invokevirtual 150, 3) := by decide +kernel
theorem dX6_bid_103 : decode cX6_bid 103 = .ok (.iload_n 1, 1) := by decide +kernel
theorem dX6_bid_104 : decode cX6_bid 104 = .ok (.invokestatic 115, 3) := by decide +kernel
theorem dX6_bid_107 : decode cX6_bid 107 = .ok (.ireturn, 1) := by decide +kernel
theorem dX6_bid_108 : decode cX6_bid 108 = .ok (.aload_n 0, 1) := by decide +kernel
theorem dX6_bid_109 : decode cX6_bid 109 = .ok (.getfield 39, 3) := by decide +kernel
theorem dX6_bid_112 : decode cX6_bid 112 = .ok (.aload_n 0, 1) := by decide +kernel
theorem dX6_bid_113 : decode cX6_bid 113 = .ok (.getfield 10, 3) := by decide +kernel
theorem dX6_bid_116 : decode cX6_bid 116 = .ok (.invokevirtual 154, 3) := by decide +kernel
theorem dX6_bid_119 : decode cX6_bid 119 = .ok (.aload_n 0, 1) := by decide +kernel
theorem dX6_bid_120 : decode cX6_bid 120 = .ok (.getfield 39, 3) := by decide +kernel
theorem dX6_bid_123 : decode cX6_bid 123 = .ok (.iload_n 1, 1) := by decide +kernel
theorem dX6_bid_124 : decode cX6_bid 124 = .ok (.invokevirtual 158, 3) := by decide +kernel
theorem dX6_bid_127 : decode cX6_bid 127 = .ok (.ireturn, 1) := by decide +kernel
theorem dX6_bid_128 : decode cX6_bid 128 = .ok (.aload_n 0, 1) := by decide +kernel
theorem dX6_bid_129 : decode cX6_bid 129 = .ok (.bipush (-2), 2) := by decide +kernel
theorem dX6_bid_131 : decode cX6_bid 131 = .ok (.invokevirtual 72, 3) := by decide +kernel
theorem dX6_bid_134 : decode cX6_bid 134 = .ok (.ireturn, 1) := by decide +kernel
theorem dX6_bidder_0 : decode cX6_bidder 0 = .ok (.iload_n 1, 1) := by decide +kernel
theorem dX6_bidder_1 : decode cX6_bidder 1 = .ok (.invokestatic 93, 3) := by decide +kernel
theorem dX6_bidder_4 : decode cX6_bidder 4 = .ok (.ifCond .ne 9, 3) := by decide +kernel
theorem dX6_bidder_7 : decode cX6_bidder 7 = .ok (.aload_n 0, 1) := by decide +kernel
theorem dX6_bidder_8 : decode cX6_bidder 8 = .ok (.iconst (-1), 1) := by decide +kernel
theorem dX6_bidder_9 : decode cX6_bidder 9 = .ok (.invokevirtual 72, 3) := by decide +kernel
theorem dX6_bidder_12 : decode cX6_bidder 12 = .ok (.ireturn, 1) := by decide +kernel
theorem dX6_bidder_13 : decode cX6_bidder 13 = .ok (.iload_n 2, 1) := by decide +kernel
theorem dX6_bidder_14 : decode cX6_bidder 14 = .ok (.tableswitch 112 0 4 #[34, 43, 52, 63, 85], 34) := by decide +kernel
theorem dX6_bidder_48 : decode cX6_bidder 48 = .ok (.aload_n 0, 1) := by decide +kernel
theorem dX6_bidder_49 : decode cX6_bidder 49 = .ok (.getfield 10, 3) := by decide +kernel
theorem dX6_bidder_52 : decode cX6_bidder 52 = .ok (.iload_n 1, 1) := by decide +kernel
theorem dX6_bidder_53 : decode cX6_bidder 53 = .ok (.invokevirtual 126, 3) := by decide +kernel
theorem dX6_bidder_56 : decode cX6_bidder 56 = .ok (.ireturn, 1) := by decide +kernel
theorem dX6_bidder_57 : decode cX6_bidder 57 = .ok (.aload_n 0, 1) := by decide +kernel
theorem dX6_bidder_58 : decode cX6_bidder 58 = .ok (.getfield 10, 3) := by decide +kernel
theorem dX6_bidder_61 : decode cX6_bidder 61 = .ok (.iload_n 1, 1) := by decide +kernel
theorem dX6_bidder_62 : decode cX6_bidder 62 = .ok (.invokevirtual 129, 3) := by decide +kernel
theorem dX6_bidder_65 : decode cX6_bidder 65 = .ok (.ireturn, 1) := by decide +kernel
theorem dX6_bidder_66 : decode cX6_bidder 66 = .ok (.aload_n 0, 1) := by decide +kernel
theorem dX6_bidder_67 : decode cX6_bidder 67 = .ok (.getfield 10, 3) := by decide +kernel
theorem dX6_bidder_70 : decode cX6_bidder 70 = .ok (.iconst 1, 1) := by decide +kernel
theorem dX6_bidder_71 : decode cX6_bidder 71 = .ok (.iload_n 1, 1) := by decide +kernel
theorem dX6_bidder_72 : decode cX6_bidder 72 = .ok (.ishl, 1) := by decide +kernel
theorem dX6_bidder_73 : decode cX6_bidder 73 = .ok (.invokevirtual 161, 3) := by decide +kernel
theorem dX6_bidder_76 : decode cX6_bidder 76 = .ok (.ireturn, 1) := by decide +kernel
theorem dX6_bidder_77 : decode cX6_bidder 77 = .ok (.aload_n 0, 1) := by decide +kernel
theorem dX6_bidder_78 : decode cX6_bidder 78 = .ok (.aload_n 0, 1) := by decide +kernel
theorem dX6_bidder_79 : decode cX6_bidder 79 = .ok (.getfield 10, 3) := by decide +kernel
theorem dX6_bidder_82 : decode cX6_bidder 82 = .ok (.invokevirtual 164, 3) := by decide +kernel
theorem dX6_bidder_85 : decode cX6_bidder 85 = .ok (.aload_n 0, 1) := by decide +kernel
theorem dX6_bidder_86 : decode cX6_bidder 86 = .ok (.getfield 32, 3) := by decide +kernel
theorem dX6_bidder_89 : decode cX6_bidder 89 = .ok (.getfield 167, 3) := by decide +kernel
theorem dX6_bidder_92 : decode cX6_bidder 92 = .ok (.iconst 1, 1) := by decide +kernel
theorem dX6_bidder_93 : decode cX6_bidder 93 = .ok (.iload_n 1, 1) := by decide +kernel
theorem dX6_bidder_94 : decode cX6_bidder 94 = .ok (.ishl, 1) := by decide +kernel
theorem dX6_bidder_95 : decode cX6_bidder 95 = .ok (.invokestatic 170, 3) := by decide +kernel
theorem dX6_bidder_98 : decode cX6_bidder 98 = .ok (.ireturn, 1) := by decide +kernel
theorem dX6_bidder_99 : decode cX6_bidder 99 = .ok (.aload_n 0, 1) := by decide +kernel
theorem dX6_bidder_100 : decode cX6_bidder 100 = .ok (.aload_n 0, 1) := by decide +kernel
theorem dX6_bidder_101 : decode cX6_bidder 101 = .ok (.getfield 10, 3) := by decide +kernel
theorem dX6_bidder_104 : decode cX6_bidder 104 = .ok (.invokevirtual 164, 3) := by decide +kernel
theorem dX6_bidder_107 : decode cX6_bidder 107 = .ok (.aload_n 0, 1) := by decide +kernel
theorem dX6_bidder_108 : decode cX6_bidder 108 = .ok (.getfield 32, 3) := by decide +kernel
theorem dX6_bidder_111 : decode cX6_bidder 111 = .ok (.aload_n 0, 1) := by decide +kernel
theorem dX6_bidder_112 : decode cX6_bidder 112 = .ok (.getfield 10, 3) := by decide +kernel
theorem dX6_bidder_115 : decode cX6_bidder 115 = .ok (.aload_n 0, 1) := by decide +kernel
theorem dX6_bidder_116 : decode cX6_bidder 116 = .ok (.getfield 25, 3) := by decide +kernel
theorem dX6_bidder_119 : decode cX6_bidder 119 = .ok (.iconst 1, 1) := by decide +kernel
theorem dX6_bidder_120 : decode cX6_bidder 120 = .ok (.iload_n 1, 1) := by decide +kernel
theorem dX6_bidder_121 : decode cX6_bidder 121 = .ok (.ishl, 1) := by decide +kernel
theorem dX6_bidder_122 : decode cX6_bidder 122 = .ok (.invokevirtual 174, 3) := by decide +kernel
theorem dX6_bidder_125 : decode cX6_bidder 125 = .ok (.ireturn, 1) := by decide +kernel
theorem dX6_bidder_126 : decode cX6_bidder 126 = .ok (.aload_n 0, 1) := by decide +kernel
theorem dX6_bidder_127 : decode cX6_bidder 127 = .ok (.bipush (-2), 2) := by decide +kernel
theorem dX6_bidder_129 : decode cX6_bidder 129 = .ok (.invokevirtual 72, 3) := by decide +kernel
theorem dX6_bidder_132 : decode cX6_bidder 132 = .ok (.ireturn, 1) := by decide +kernel
